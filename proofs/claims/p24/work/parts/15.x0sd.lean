/-! the class: setDistance -/
set_option maxHeartbeats 4000000 in
set_option maxRecDepth 100000 in
theorem c_X0_setDistance (l : Launch) (hfl : l.stackTraces = false) (D : va_G) (q : Nat → Nat) (F : Nat → Nat → Int32) (n : Nat) (R : Nat → Int32) (cI cZ : ClassId) (sz : Nat) (c1 : Int32) (c2 : Int32) (d1 : Int32) (hw : WF F n) : vx_Met l yX0_setDistance wsX0_setDistance ({ frames := 8, cells := 3, slots := 18, locals := 132 }) (va_Pc [.ref (q 9), .int c1, .int c2, .int d1] (xS D (wX q F (nI n) R cI cZ) (tIZ cI cZ) sz)) (va_Qi (fun (r : Int32) (u : Nat → Nat → Int32) => r = F 0 (c1 * 10 + c2).toNatClampNeg ∧ u = fSD F c1 c2 d1 ∧ thSD c1 c2 d1 = 0) (wB D (va_A (wX q F (nI n) R cI cZ) sz) (fun (u : Nat → Nat → Int32) => wX q u (nI n) R cI cZ)) (va_A (wX q F (nI n) R cI cZ) sz)) (XB (fun E => E = "java/lang/IllegalArgumentException" ∧ thSD c1 c2 d1 = 1)) 3 18 (va_A (wX q F (nI n) R cI cZ) sz) := by
  refine wrx_of (Qc := fun A => (va_Qi (fun (r : Int32) (u : Nat → Nat → Int32) => r = F 0 (c1 * 10 + c2).toNatClampNeg ∧ u = fSD F c1 c2 d1 ∧ thSD c1 c2 d1 = 0) (wB D A (fun (u : Nat → Nat → Int32) => wX q u (nI n) R cI cZ)) A)) (own := RX0) (cc := cX0_setDistance) (maxL := 5) (ret := (some .int)) (by decide) rfl rfl (Nat.le_of_ble_eq_true rfl) ?_
  intro p9 e9 s m9 a9 below meth c9 ls A hx hb hr hml hlocks hown hts htab ht hP hK hD hA hl
  have hin : ∀ w ∈ wsX00, w ∈ wsX0_setDistance := by decide +kernel
  have f9 := hts (.fieldLink RX0 9 "DangerousGoods" "table" "[I") (by decide +kernel)
  have hS : va_S nA s.heap s.heap [] := va_S.rf
  have hl : lv_has ls 5 [(0, .ref (q 9)), (1, .int c1), (2, .int c2), (3, .int d1)] := hl
  refine lv_iload_n hx hb dX0_setDistance_0 rfl (lv_at hl 1 rfl) ?_
  refine tx_S (As := [.int c1]) (rest := []) ⟨hx, hb, hml, hown, hts⟩ (c_X0_checkClass l hfl c1) (va_cwS 1 hts gX0_setDistance_X0_checkClass rfl rfl rfl (by decide +kernel) ⟨Nat.le_of_ble_eq_true rfl, Nat.le_of_ble_eq_true rfl⟩) ht hP hS rfl hl.1 rfl (Nat.le_of_ble_eq_true rfl) dX0_setDistance_1 ⟨Nat.le_of_ble_eq_true rfl, Nat.le_of_ble_eq_true rfl⟩ (fun E ce q9 H locs hE hP hS hce hcv hcl => tx_out htab hlocks hS hce hcv hcl (⟨hE.1, thSD_1 (Or.inl hE.2)⟩) (Nat.le_of_ble_eq_true rfl) (Nat.le_of_ble_eq_true rfl)) (fun H locs h_1 hP hS => ?_)
  refine lv_iload_n hx hb dX0_setDistance_4 rfl (lv_at hl 2 rfl) ?_
  refine tx_S (As := [.int c2]) (rest := []) ⟨hx, hb, hml, hown, hts⟩ (c_X0_checkClass l hfl c2) (va_cwS 1 hts gX0_setDistance_X0_checkClass rfl rfl rfl (by decide +kernel) ⟨Nat.le_of_ble_eq_true rfl, Nat.le_of_ble_eq_true rfl⟩) ht hP hS rfl hl.1 rfl (Nat.le_of_ble_eq_true rfl) dX0_setDistance_5 ⟨Nat.le_of_ble_eq_true rfl, Nat.le_of_ble_eq_true rfl⟩ (fun E ce q9 H locs hE hP hS hce hcv hcl => tx_out htab hlocks hS hce hcv hcl (⟨hE.1, thSD_1 (Or.inr (Or.inl hE.2))⟩) (Nat.le_of_ble_eq_true rfl) (Nat.le_of_ble_eq_true rfl)) (fun H locs h_5 hP hS => ?_)
  refine lv_iload_n hx hb dX0_setDistance_8 rfl (lv_at hl 3 rfl) ?_
  refine lv_iconst (v := 0) hx hb dX0_setDistance_9 (by decide) ?_
  refine lv_iconst (v := 4) hx hb dX0_setDistance_10 (by decide) ?_
  refine tx_S (As := [.int d1, .int 0, .int 4]) (rest := []) ⟨hx, hb, hml, hown, hts⟩ (c_X0_checkRange l hfl d1 0 4) (va_cwS 3 hts gX0_setDistance_X0_checkRange rfl rfl rfl (by decide +kernel) ⟨Nat.le_of_ble_eq_true rfl, Nat.le_of_ble_eq_true rfl⟩) ht hP hS rfl hl.1 rfl (Nat.le_of_ble_eq_true rfl) dX0_setDistance_11 ⟨Nat.le_of_ble_eq_true rfl, Nat.le_of_ble_eq_true rfl⟩ (fun E ce q9 H locs hE hP hS hce hcv hcl => tx_out htab hlocks hS hce hcv hcl (⟨hE.1, thSD_1 (Or.inr (Or.inr hE.2))⟩) (Nat.le_of_ble_eq_true rfl) (Nat.le_of_ble_eq_true rfl)) (fun H locs h_11 hP hS => ?_)
  refine lv_aload_n hx hb dX0_setDistance_14 rfl (lv_at hl 0 rfl) ?_
  refine lv_iload_n hx hb dX0_setDistance_15 rfl (lv_at hl 1 rfl) ?_
  refine lv_iload_n hx hb dX0_setDistance_16 rfl (lv_at hl 2 rfl) ?_
  refine ro_V (As := [.int c1, .int c2]) (rest := []) ⟨hx, hb, hml, hown, hts⟩ (c_X0_tableDistance l D q F n R cI cZ c1 c2 (cl_okC h_1) (cl_okC h_5)) (cwV 2 hts gX0_setDistance_X0_tableDistance rfl rfl rfl (by decide +kernel) ⟨Nat.le_of_ble_eq_true rfl, Nat.le_of_ble_eq_true rfl⟩) hK hP hP (va_recv hK hP (ci := 0) (q0 := 0) rfl rfl) hS rfl hl.1 rfl (Nat.le_of_ble_eq_true rfl) dX0_setDistance_17 ⟨Nat.le_of_ble_eq_true rfl, Nat.le_of_ble_eq_true rfl⟩ (fun r H locs hr9 hP hS => ?_)
  subst hr9
  refine lv_istore (lv' := [(4, .int (sTab F c1 c2)), (0, .ref (q 9)), (1, .int c1), (2, .int c2), (3, .int d1)]) hx hb dX0_setDistance_20 hl (by decide) rfl (fun ls hl => ?_)
  obtain ⟨i1, hi1, ei1, -⟩ := tab_ix (cl_okC h_1) (cl_okC h_5) (cl_ne h_1) (cl_ne h_5)
  obtain ⟨i2, hi2, ei2, -⟩ := tab_ix (cl_okC h_5) (cl_okC h_1) (cl_ne h_5) (cl_ne h_1)
  refine lv_aload_n hx hb dX0_setDistance_22 rfl (lv_at hl 1 rfl) ?_
  refine va_get (D := D) (ci := 0) (v := .ref (q 0)) hx hb hts hin hown hK hP 0 rfl rfl 0 (by decide) f9 (fun _ h9 => h9) rfl dX0_setDistance_23 ?_
  refine lv_iload_n hx hb dX0_setDistance_26 rfl (lv_at hl 2 rfl) ?_
  refine lv_bipush (v := 10) hx hb dX0_setDistance_27 (by decide) ?_
  refine lv_imul hx hb (x := c1) (y := 10) dX0_setDistance_29 ?_
  refine lv_iload_n hx hb dX0_setDistance_30 rfl (lv_at hl 3 rfl) ?_
  refine lv_iadd hx hb (x := (c1 * 10)) (y := c2) dX0_setDistance_31 ?_
  refine W.eq (g2 := F0 m9 32 ls (.int (nI i1) :: [.ref (q 0)])) (congrArg (fun z => F0 m9 32 ls (Value.int z :: [.ref (q 0)])) ei1) ?_
  refine lv_iload_n hx hb dX0_setDistance_32 rfl (lv_at hl 4 rfl) ?_
  have hS := nA_S (A := A) hS
  refine xiast hx hb hK hP hD hS 1 0 rfl rfl (g := i1) (x := d1) (hi1) (by decide) dX0_setDistance_33 (fun H locs hP hD hS => ?_)
  have hP : va_P D vwCl (wX q (uF F 0 (upd (F 0) i1 d1)) (nI n) R cI cZ) H := hP
  have hD : va_D A (wX q (uF F 0 (upd (F 0) i1 d1)) (nI n) R cI cZ) := hD
  refine lv_aload_n hx hb dX0_setDistance_34 rfl (lv_at hl 1 rfl) ?_
  refine va_get (D := D) (ci := 0) (v := .ref (q 0)) hx hb hts hin hown hK hP 0 rfl rfl 0 (by decide) f9 (fun _ h9 => h9) rfl dX0_setDistance_35 ?_
  refine lv_iload_n hx hb dX0_setDistance_38 rfl (lv_at hl 3 rfl) ?_
  refine lv_bipush (v := 10) hx hb dX0_setDistance_39 (by decide) ?_
  refine lv_imul hx hb (x := c2) (y := 10) dX0_setDistance_41 ?_
  refine lv_iload_n hx hb dX0_setDistance_42 rfl (lv_at hl 2 rfl) ?_
  refine lv_iadd hx hb (x := (c2 * 10)) (y := c1) dX0_setDistance_43 ?_
  refine W.eq (g2 := F0 m9 44 ls (.int (nI i2) :: [.ref (q 0)])) (congrArg (fun z => F0 m9 44 ls (Value.int z :: [.ref (q 0)])) ei2) ?_
  refine lv_iload_n hx hb dX0_setDistance_44 rfl (lv_at hl 4 rfl) ?_
  refine xiast hx hb hK hP hD hS 1 0 rfl rfl (g := i2) (x := d1) (hi2) (by decide) dX0_setDistance_45 (fun H locs hP hD hS => ?_)
  have hP : va_P D vwCl (wX q (uF (uF F 0 (upd (F 0) i1 d1)) 0 (upd ((uF F 0 (upd (F 0) i1 d1)) 0) i2 d1)) (nI n) R cI cZ) H := hP
  have hD : va_D A (wX q (uF (uF F 0 (upd (F 0) i1 d1)) 0 (upd ((uF F 0 (upd (F 0) i1 d1)) 0) i2 d1)) (nI n) R cI cZ) := hD
  refine lv_iload hx hb dX0_setDistance_46 (lv_at hl 0 rfl) ?_
  refine W.widen (k := 3) (n := 18) (Nat.le_of_ble_eq_true rfl) (Nat.le_of_ble_eq_true rfl) ?_
  exact vx_ret (W.iret hx hb hr (fun t ht hW => ⟨⟨_, (uF (uF F 0 (upd (F 0) i1 d1)) 0 (upd ((uF F 0 (upd (F 0) i1 d1)) 0) i2 d1)), rfl, (by show (sTab F c1 c2) = F 0 (c1 * 10 + c2).toNatClampNeg ∧ (uF (uF F 0 (upd (F 0) i1 d1)) 0 (upd ((uF F 0 (upd (F 0) i1 d1)) 0) i2 d1)) = fSD F c1 c2 d1 ∧ thSD c1 c2 d1 = 0; exact ⟨by simp [sTab, cl_ne h_1, cl_ne h_5], by unfold fSD; rw [ei1, ei2, nI_clamp (n := i1) (by omega), nI_clamp (n := i2) (by omega)], thSD_0 h_1 h_5 h_11⟩), by rw [ht]; exact hP, hD⟩, hS.F ht⟩) hS.2.2 dX0_setDistance_48)

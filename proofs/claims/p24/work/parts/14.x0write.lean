/-! the class: calls that write and may throw -/
set_option maxHeartbeats 4000000 in
set_option maxRecDepth 100000 in
theorem c_X0_setQuantities (l : Launch) (hfl : l.stackTraces = false) (D : va_G) (q : Nat → Nat) (F : Nat → Nat → Int32) (n : Nat) (R : Nat → Int32) (cI cZ : ClassId) (sz : Nat) (c1 : Int32) (l1 : Int32) (x1 : Int32) (hw : WF F n) : vx_Met l yX0_setQuantities wsX0_setQuantities ({ frames := 8, cells := 3, slots := 18, locals := 132 }) (va_Pc [.ref (q 9), .int c1, .int l1, .int x1] (xS D (wX q F (nI n) R cI cZ) (tIZ cI cZ) sz)) (va_Qv (fun (u : Nat → Nat → Int32) => u = fSQ F c1 l1 x1 ∧ thSQ c1 l1 x1 = 0) (wB D (va_A (wX q F (nI n) R cI cZ) sz) (fun (u : Nat → Nat → Int32) => wX q u (nI n) R cI cZ)) (va_A (wX q F (nI n) R cI cZ) sz)) (XB (fun E => E = "java/lang/IllegalArgumentException" ∧ thSQ c1 l1 x1 = 1)) 3 18 (va_A (wX q F (nI n) R cI cZ) sz) := by
  refine wrx_of (Qc := fun A => (va_Qv (fun (u : Nat → Nat → Int32) => u = fSQ F c1 l1 x1 ∧ thSQ c1 l1 x1 = 0) (wB D A (fun (u : Nat → Nat → Int32) => wX q u (nI n) R cI cZ)) A)) (own := RX0) (cc := cX0_setQuantities) (maxL := 4) (ret := none) (by decide) rfl rfl (Nat.le_of_ble_eq_true rfl) ?_
  intro p9 e9 s m9 a9 below meth c9 ls A hx hb hr hml hlocks hown hts htab ht hP hK hD hA hl
  have hin : ∀ w ∈ wsX00, w ∈ wsX0_setQuantities := by decide +kernel
  have f13 := hts (.fieldLink RX0 13 "DangerousGoods" "limitedQuantities" "[I") (by decide +kernel)
  have f16 := hts (.fieldLink RX0 16 "DangerousGoods" "exceptedQuantities" "[I") (by decide +kernel)
  have hS : va_S nA s.heap s.heap [] := va_S.rf
  have hl : lv_has ls 4 [(0, .ref (q 9)), (1, .int c1), (2, .int l1), (3, .int x1)] := hl
  refine lv_iload_n hx hb dX0_setQuantities_0 rfl (lv_at hl 1 rfl) ?_
  refine tx_S (As := [.int c1]) (rest := []) ⟨hx, hb, hml, hown, hts⟩ (c_X0_checkClass l hfl c1) (va_cwS 1 hts gX0_setQuantities_X0_checkClass rfl rfl rfl (by decide +kernel) ⟨Nat.le_of_ble_eq_true rfl, Nat.le_of_ble_eq_true rfl⟩) ht hP hS rfl hl.1 rfl (Nat.le_of_ble_eq_true rfl) dX0_setQuantities_1 ⟨Nat.le_of_ble_eq_true rfl, Nat.le_of_ble_eq_true rfl⟩ (fun E ce q9 H locs hE hP hS hce hcv hcl => tx_out htab hlocks hS hce hcv hcl (⟨hE.1, thSQ_1 (Or.inl hE.2)⟩) (Nat.le_of_ble_eq_true rfl) (Nat.le_of_ble_eq_true rfl)) (fun H locs h_1 hP hS => ?_)
  refine lv_iload_n hx hb dX0_setQuantities_4 rfl (lv_at hl 2 rfl) ?_
  refine lv_iconst (v := 0) hx hb dX0_setQuantities_5 (by decide) ?_
  refine lv_sipush (v := 10000) hx hb dX0_setQuantities_6 (by decide) ?_
  refine tx_S (As := [.int l1, .int 0, .int 10000]) (rest := []) ⟨hx, hb, hml, hown, hts⟩ (c_X0_checkRange l hfl l1 0 10000) (va_cwS 3 hts gX0_setQuantities_X0_checkRange rfl rfl rfl (by decide +kernel) ⟨Nat.le_of_ble_eq_true rfl, Nat.le_of_ble_eq_true rfl⟩) ht hP hS rfl hl.1 rfl (Nat.le_of_ble_eq_true rfl) dX0_setQuantities_9 ⟨Nat.le_of_ble_eq_true rfl, Nat.le_of_ble_eq_true rfl⟩ (fun E ce q9 H locs hE hP hS hce hcv hcl => tx_out htab hlocks hS hce hcv hcl (⟨hE.1, thSQ_1 (Or.inr (Or.inl hE.2))⟩) (Nat.le_of_ble_eq_true rfl) (Nat.le_of_ble_eq_true rfl)) (fun H locs h_9 hP hS => ?_)
  refine lv_iload_n hx hb dX0_setQuantities_12 rfl (lv_at hl 3 rfl) ?_
  refine lv_iconst (v := 0) hx hb dX0_setQuantities_13 (by decide) ?_
  refine lv_iload_n hx hb dX0_setQuantities_14 rfl (lv_at hl 2 rfl) ?_
  refine tx_S (As := [.int x1, .int 0, .int l1]) (rest := []) ⟨hx, hb, hml, hown, hts⟩ (c_X0_checkRange l hfl x1 0 l1) (va_cwS 3 hts gX0_setQuantities_X0_checkRange rfl rfl rfl (by decide +kernel) ⟨Nat.le_of_ble_eq_true rfl, Nat.le_of_ble_eq_true rfl⟩) ht hP hS rfl hl.1 rfl (Nat.le_of_ble_eq_true rfl) dX0_setQuantities_15 ⟨Nat.le_of_ble_eq_true rfl, Nat.le_of_ble_eq_true rfl⟩ (fun E ce q9 H locs hE hP hS hce hcv hcl => tx_out htab hlocks hS hce hcv hcl (⟨hE.1, thSQ_1 (Or.inr (Or.inr hE.2))⟩) (Nat.le_of_ble_eq_true rfl) (Nat.le_of_ble_eq_true rfl)) (fun H locs h_15 hP hS => ?_)
  refine lv_aload_n hx hb dX0_setQuantities_18 rfl (lv_at hl 0 rfl) ?_
  refine va_get (D := D) (ci := 0) (v := .ref (q 1)) hx hb hts hin hown hK hP 0 rfl rfl 1 (by decide) f13 (fun _ h9 => h9) rfl dX0_setQuantities_19 ?_
  refine lv_iload_n hx hb dX0_setQuantities_22 rfl (lv_at hl 1 rfl) ?_
  refine lv_iload_n hx hb dX0_setQuantities_23 rfl (lv_at hl 2 rfl) ?_
  have hS := nA_S (A := A) hS
  refine va_iast hx hb hK hP hD hS 2 0 rfl rfl (i := c1) (x := l1) ((cl_okC h_1).in (cl_ne h_1)) dX0_setQuantities_24 (fun H locs hP hD hS => ?_)
  have hP : va_P D vwCl (wX q (uF F 1 (upd (F 1) c1.toNatClampNeg l1)) (nI n) R cI cZ) H := hP
  have hD : va_D A (wX q (uF F 1 (upd (F 1) c1.toNatClampNeg l1)) (nI n) R cI cZ) := hD
  refine lv_aload_n hx hb dX0_setQuantities_25 rfl (lv_at hl 0 rfl) ?_
  refine va_get (D := D) (ci := 0) (v := .ref (q 2)) hx hb hts hin hown hK hP 0 rfl rfl 2 (by decide) f16 (fun _ h9 => h9) rfl dX0_setQuantities_26 ?_
  refine lv_iload_n hx hb dX0_setQuantities_29 rfl (lv_at hl 1 rfl) ?_
  refine lv_iload_n hx hb dX0_setQuantities_30 rfl (lv_at hl 3 rfl) ?_
  refine va_iast hx hb hK hP hD hS 3 0 rfl rfl (i := c1) (x := x1) ((cl_okC h_1).in (cl_ne h_1)) dX0_setQuantities_31 (fun H locs hP hD hS => ?_)
  have hP : va_P D vwCl (wX q (uF (uF F 1 (upd (F 1) c1.toNatClampNeg l1)) 2 (upd ((uF F 1 (upd (F 1) c1.toNatClampNeg l1)) 2) c1.toNatClampNeg x1)) (nI n) R cI cZ) H := hP
  have hD : va_D A (wX q (uF (uF F 1 (upd (F 1) c1.toNatClampNeg l1)) 2 (upd ((uF F 1 (upd (F 1) c1.toNatClampNeg l1)) 2) c1.toNatClampNeg x1)) (nI n) R cI cZ) := hD
  refine W.widen (k := 3) (n := 18) (Nat.le_of_ble_eq_true rfl) (Nat.le_of_ble_eq_true rfl) ?_
  exact vx_ret (W.vret hx hb hr (fun t ht hW => ⟨⟨(uF (uF F 1 (upd (F 1) c1.toNatClampNeg l1)) 2 (upd ((uF F 1 (upd (F 1) c1.toNatClampNeg l1)) 2) c1.toNatClampNeg x1)), rfl, (by show (uF (uF F 1 (upd (F 1) c1.toNatClampNeg l1)) 2 (upd ((uF F 1 (upd (F 1) c1.toNatClampNeg l1)) 2) c1.toNatClampNeg x1)) = fSQ F c1 l1 x1 ∧ thSQ c1 l1 x1 = 0; exact ⟨rfl, thSQ_0 h_1 h_9 h_15⟩), by rw [ht]; exact hP, hD⟩, hS.F ht⟩) hS.2.2 dX0_setQuantities_32)
set_option maxHeartbeats 4000000 in
set_option maxRecDepth 100000 in
theorem c_X0_bar (l : Launch) (hfl : l.stackTraces = false) (D : va_G) (q : Nat → Nat) (F : Nat → Nat → Int32) (n : Nat) (R : Nat → Int32) (cI cZ : ClassId) (sz : Nat) (c1 : Int32) (d1 : Int32) (b1 : Bool) (hw : WF F n) : vx_Met l yX0_bar wsX0_bar ({ frames := 8, cells := 2, slots := 12, locals := 132 }) (va_Pc [.ref (q 9), .int c1, .int d1, .int (bi b1)] (xS D (wX q F (nI n) R cI cZ) (tIZ cI cZ) sz)) (va_Qi (fun (r : Int32) (u : Nat → Nat → Int32) => r = F 3 (c1 * 2 + d1).toNatClampNeg ∧ u = fBar F c1 d1 b1 ∧ thBar c1 d1 = 0) (wB D (va_A (wX q F (nI n) R cI cZ) sz) (fun (u : Nat → Nat → Int32) => wX q u (nI n) R cI cZ)) (va_A (wX q F (nI n) R cI cZ) sz)) (XB (fun E => E = "java/lang/IllegalArgumentException" ∧ thBar c1 d1 = 1)) 2 12 (va_A (wX q F (nI n) R cI cZ) sz) := by
  refine wrx_of (Qc := fun A => (va_Qi (fun (r : Int32) (u : Nat → Nat → Int32) => r = F 3 (c1 * 2 + d1).toNatClampNeg ∧ u = fBar F c1 d1 b1 ∧ thBar c1 d1 = 0) (wB D A (fun (u : Nat → Nat → Int32) => wX q u (nI n) R cI cZ)) A)) (own := RX0) (cc := cX0_bar) (maxL := 6) (ret := (some .boolean)) (by decide) rfl rfl (Nat.le_of_ble_eq_true rfl) ?_
  intro p9 e9 s m9 a9 below meth c9 ls A hx hb hr hml hlocks hown hts htab ht hP hK hD hA hl
  have hin : ∀ w ∈ wsX00, w ∈ wsX0_bar := by decide +kernel
  have f19 := hts (.fieldLink RX0 19 "DangerousGoods" "barred" "[Z") (by decide +kernel)
  have hS : va_S nA s.heap s.heap [] := va_S.rf
  have hl : lv_has ls 6 [(0, .ref (q 9)), (1, .int c1), (2, .int d1), (3, .int (bi b1))] := hl
  refine lv_iload_n hx hb dX0_bar_0 rfl (lv_at hl 1 rfl) ?_
  refine tx_S (As := [.int c1]) (rest := []) ⟨hx, hb, hml, hown, hts⟩ (c_X0_checkClass l hfl c1) (va_cwS 1 hts gX0_bar_X0_checkClass rfl rfl rfl (by decide +kernel) ⟨Nat.le_of_ble_eq_true rfl, Nat.le_of_ble_eq_true rfl⟩) ht hP hS rfl hl.1 rfl (Nat.le_of_ble_eq_true rfl) dX0_bar_1 ⟨Nat.le_of_ble_eq_true rfl, Nat.le_of_ble_eq_true rfl⟩ (fun E ce q9 H locs hE hP hS hce hcv hcl => tx_out htab hlocks hS hce hcv hcl (⟨hE.1, thBar_1 (Or.inl hE.2)⟩) (Nat.le_of_ble_eq_true rfl) (Nat.le_of_ble_eq_true rfl)) (fun H locs h_1 hP hS => ?_)
  refine lv_iload_n hx hb dX0_bar_4 rfl (lv_at hl 2 rfl) ?_
  refine lv_iconst (v := 0) hx hb dX0_bar_5 (by decide) ?_
  refine lv_iconst (v := 1) hx hb dX0_bar_6 (by decide) ?_
  refine tx_S (As := [.int d1, .int 0, .int 1]) (rest := []) ⟨hx, hb, hml, hown, hts⟩ (c_X0_checkRange l hfl d1 0 1) (va_cwS 3 hts gX0_bar_X0_checkRange rfl rfl rfl (by decide +kernel) ⟨Nat.le_of_ble_eq_true rfl, Nat.le_of_ble_eq_true rfl⟩) ht hP hS rfl hl.1 rfl (Nat.le_of_ble_eq_true rfl) dX0_bar_7 ⟨Nat.le_of_ble_eq_true rfl, Nat.le_of_ble_eq_true rfl⟩ (fun E ce q9 H locs hE hP hS hce hcv hcl => tx_out htab hlocks hS hce hcv hcl (⟨hE.1, thBar_1 (Or.inr hE.2)⟩) (Nat.le_of_ble_eq_true rfl) (Nat.le_of_ble_eq_true rfl)) (fun H locs h_7 hP hS => ?_)
  refine lv_iload_n hx hb dX0_bar_10 rfl (lv_at hl 1 rfl) ?_
  refine lv_iconst (v := 2) hx hb dX0_bar_11 (by decide) ?_
  refine lv_imul hx hb (x := c1) (y := 2) dX0_bar_12 ?_
  refine lv_iload_n hx hb dX0_bar_13 rfl (lv_at hl 2 rfl) ?_
  refine lv_iadd hx hb (x := (c1 * 2)) (y := d1) dX0_bar_14 ?_
  refine lv_istore (lv' := [(4, .int ((c1 * 2) + d1)), (0, .ref (q 9)), (1, .int c1), (2, .int d1), (3, .int (bi b1))]) hx hb dX0_bar_15 hl (by decide) rfl (fun ls hl => ?_)
  refine lv_aload_n hx hb dX0_bar_17 rfl (lv_at hl 1 rfl) ?_
  refine va_get (D := D) (ci := 0) (v := .ref (q 3)) hx hb hts hin hown hK hP 0 rfl rfl 3 (by decide) f19 (fun _ h9 => h9) rfl dX0_bar_18 ?_
  refine lv_iload hx hb dX0_bar_21 (lv_at hl 0 rfl) ?_
  refine va_zald hx hb hK hP 4 1 rfl rfl (i := ((c1 * 2) + d1)) (bar_in (cl_okC h_1) (cl_ne h_1) (dk_01 h_7)) dX0_bar_23 ?_
  refine lv_istore (lv' := [(5, .int (F 3 ((c1 * 2) + d1).toNatClampNeg)), (4, .int ((c1 * 2) + d1)), (0, .ref (q 9)), (1, .int c1), (2, .int d1), (3, .int (bi b1))]) hx hb dX0_bar_24 hl (by decide) rfl (fun ls hl => ?_)
  refine lv_aload_n hx hb dX0_bar_26 rfl (lv_at hl 2 rfl) ?_
  refine va_get (D := D) (ci := 0) (v := .ref (q 3)) hx hb hts hin hown hK hP 0 rfl rfl 3 (by decide) f19 (fun _ h9 => h9) rfl dX0_bar_27 ?_
  refine lv_iload hx hb dX0_bar_30 (lv_at hl 1 rfl) ?_
  refine lv_iload_n hx hb dX0_bar_32 rfl (lv_at hl 5 rfl) ?_
  have hS := nA_S (A := A) hS
  refine va_zast hx hb hK hP hD hS 4 1 rfl rfl (i := ((c1 * 2) + d1)) (x := (bi b1)) (bar_in (cl_okC h_1) (cl_ne h_1) (dk_01 h_7)) dX0_bar_33 (fun H locs hP hD hS => ?_)
  have hP : va_P D vwCl (wX q (uF F 3 (upd (F 3) ((c1 * 2) + d1).toNatClampNeg (vp_nar .boolean (bi b1)))) (nI n) R cI cZ) H := hP
  have hD : va_D A (wX q (uF F 3 (upd (F 3) ((c1 * 2) + d1).toNatClampNeg (vp_nar .boolean (bi b1)))) (nI n) R cI cZ) := hD
  refine lv_iload hx hb dX0_bar_34 (lv_at hl 0 rfl) ?_
  refine W.widen (k := 2) (n := 12) (Nat.le_of_ble_eq_true rfl) (Nat.le_of_ble_eq_true rfl) ?_
  exact vx_ret (W.zret hx hb hr (b3_nar hw h_1 h_7) (fun t ht hW => ⟨⟨_, (uF F 3 (upd (F 3) ((c1 * 2) + d1).toNatClampNeg (vp_nar .boolean (bi b1)))), rfl, (by show (F 3 ((c1 * 2) + d1).toNatClampNeg) = F 3 (c1 * 2 + d1).toNatClampNeg ∧ (uF F 3 (upd (F 3) ((c1 * 2) + d1).toNatClampNeg (vp_nar .boolean (bi b1)))) = fBar F c1 d1 b1 ∧ thBar c1 d1 = 0; exact ⟨rfl, by rw [bi_vn]; rfl, thBar_0 h_1 h_7⟩), by rw [ht]; exact hP, hD⟩, hS.F ht⟩) hS.2.2 dX0_bar_36)
set_option maxHeartbeats 4000000 in
set_option maxRecDepth 100000 in
theorem c_X0_add (l : Launch) (hfl : l.stackTraces = false) (D : va_G) (q : Nat → Nat) (F : Nat → Nat → Int32) (n : Nat) (R : Nat → Int32) (cI cZ : ClassId) (sz : Nat) (c1 : Int32) (c2 : Int32) (x1 : Int32) (hw : WF F n) : vx_Met l yX0_add wsX0_add ({ frames := 9, cells := 5, slots := 30, locals := 153 }) (va_Pc [.ref (q 9), .int c1, .int c2, .int x1] (xS D (wX q F (nI n) R cI cZ) (tIZ cI cZ) sz)) (va_Qi (fun (r : Int32) (u : Nat → Nat → Int32) => r = nI n ∧ u = fAdd F n c1 c2 x1 ∧ thAdd n c1 c2 x1 = 0) (wB D (va_A (wX q F (nI n) R cI cZ) sz) (fun (u : Nat → Nat → Int32) => wX q u (nI (n + 1)) R cI cZ)) (va_A (wX q F (nI n) R cI cZ) sz)) (XB (fun E => (E = "java/lang/IllegalArgumentException" ∧ thAdd n c1 c2 x1 = 1) ∨ (E = "java/lang/IllegalStateException" ∧ thAdd n c1 c2 x1 = 2))) 5 30 (va_A (wX q F (nI n) R cI cZ) sz) := by
  refine wrx_of (Qc := fun A => (va_Qi (fun (r : Int32) (u : Nat → Nat → Int32) => r = nI n ∧ u = fAdd F n c1 c2 x1 ∧ thAdd n c1 c2 x1 = 0) (wB D A (fun (u : Nat → Nat → Int32) => wX q u (nI (n + 1)) R cI cZ)) A)) (own := RX0) (cc := cX0_add) (maxL := 5) (ret := (some .int)) (by decide) rfl rfl (Nat.le_of_ble_eq_true rfl) ?_
  intro p9 e9 s m9 a9 below meth c9 ls A hx hb hr hml hlocks hown hts htab ht hP hK hD hA hl
  have hin : ∀ w ∈ wsX00, w ∈ wsX0_add := by decide +kernel
  have f23 := hts (.fieldLink RX0 23 "DangerousGoods" "classes" "[I") (by decide +kernel)
  have f26 := hts (.fieldLink RX0 26 "DangerousGoods" "subsidiaries" "[I") (by decide +kernel)
  have f29 := hts (.fieldLink RX0 29 "DangerousGoods" "quantities" "[I") (by decide +kernel)
  have f32 := hts (.fieldLink RX0 32 "DangerousGoods" "places" "[I") (by decide +kernel)
  have f35 := hts (.fieldLink RX0 35 "DangerousGoods" "count" "I") (by decide +kernel)
  have hat_is : ∀ w ∈ (vx_atS RX0 71 "java/lang/IllegalStateException" nmE).filter goodWord, w ∈ wsX0_add := by decide +kernel
  obtain ⟨-, ⟨sa1, t1⟩, ⟨sa2, t2⟩, ⟨sa3, t3⟩, ⟨sa4, t4⟩, ⟨sa5, t5⟩, tU, tN⟩ := id ht
  have hS : va_S nA s.heap s.heap [] := va_S.rf
  have hl : lv_has ls 5 [(0, .ref (q 9)), (1, .int c1), (2, .int c2), (3, .int x1)] := hl
  refine lv_iload_n hx hb dX0_add_0 rfl (lv_at hl 1 rfl) ?_
  refine tx_S (As := [.int c1]) (rest := []) ⟨hx, hb, hml, hown, hts⟩ (c_X0_checkClass l hfl c1) (va_cwS 1 hts gX0_add_X0_checkClass rfl rfl rfl (by decide +kernel) ⟨Nat.le_of_ble_eq_true rfl, Nat.le_of_ble_eq_true rfl⟩) ht hP hS rfl hl.1 rfl (Nat.le_of_ble_eq_true rfl) dX0_add_1 ⟨Nat.le_of_ble_eq_true rfl, Nat.le_of_ble_eq_true rfl⟩ (fun E ce q9 H locs hE hP hS hce hcv hcl => tx_out htab hlocks hS hce hcv hcl (Or.inl ⟨hE.1, thAdd_1 (Or.inl hE.2)⟩) (Nat.le_of_ble_eq_true rfl) (Nat.le_of_ble_eq_true rfl)) (fun H locs h_1 hP hS => ?_)
  refine lv_iload_n hx hb dX0_add_4 rfl (lv_at hl 2 rfl) ?_
  refine lv_iconst (v := (-1)) hx hb dX0_add_5 (by decide) ?_
  refine lv_icmp_eq (x := c2) (y := (-1)) (tgt := 14) hx hb dX0_add_6 (by decide) (fun c_6 => ?_) (fun c_6 => ?_)
  · skip
    have hso : subOk c1 c2 = true := subOk_t (by first | exact Or.inl c_6 | exact Or.inr h_11)
    refine lv_iload_n hx hb dX0_add_14 rfl (lv_at hl 3 rfl) ?_
    refine tx_S (As := [.int x1]) (rest := []) ⟨hx, hb, hml, hown, hts⟩ (c_X0_checkQuantity l hfl x1) (va_cwS 1 hts gX0_add_X0_checkQuantity rfl rfl rfl (by decide +kernel) ⟨Nat.le_of_ble_eq_true rfl, Nat.le_of_ble_eq_true rfl⟩) ht hP hS rfl hl.1 rfl (Nat.le_of_ble_eq_true rfl) dX0_add_15 ⟨Nat.le_of_ble_eq_true rfl, Nat.le_of_ble_eq_true rfl⟩ (fun E ce q9 H locs hE hP hS hce hcv hcl => tx_out htab hlocks hS hce hcv hcl (Or.inl ⟨hE.1, thAdd_1 (Or.inr (Or.inr hE.2))⟩) (Nat.le_of_ble_eq_true rfl) (Nat.le_of_ble_eq_true rfl)) (fun H locs h_15 hP hS => ?_)
    refine lv_aload_n hx hb dX0_add_18 rfl (lv_at hl 0 rfl) ?_
    refine va_get (D := D) (ci := 0) (v := .int (nI n)) hx hb hts hin hown hK hP 0 rfl rfl 8 (by decide) f35 (fun _ h9 => h9) rfl dX0_add_19 ?_
    refine lv_bipush (v := 16) hx hb dX0_add_22 (by decide) ?_
    refine lv_icmp_lt (x := (nI n)) (y := 16) (tgt := 37) hx hb dX0_add_24 (by decide) (fun c_24 => ?_) (fun c_24 => ?_)
    · have hn16 : n < 16 := (nI_ltI (b := 16) (by have := hw.n; omega) (by decide)).mp c_24
      refine lv_aload_n hx hb dX0_add_37 rfl (lv_at hl 0 rfl) ?_
      refine va_get (D := D) (ci := 0) (v := .int (nI n)) hx hb hts hin hown hK hP 0 rfl rfl 8 (by decide) f35 (fun _ h9 => h9) rfl dX0_add_38 ?_
      refine lv_istore (lv' := [(4, .int (nI n)), (0, .ref (q 9)), (1, .int c1), (2, .int c2), (3, .int x1)]) hx hb dX0_add_41 hl (by decide) rfl (fun ls hl => ?_)
      refine lv_aload_n hx hb dX0_add_43 rfl (lv_at hl 1 rfl) ?_
      refine va_get (D := D) (ci := 0) (v := .ref (q 4)) hx hb hts hin hown hK hP 0 rfl rfl 4 (by decide) f23 (fun _ h9 => h9) rfl dX0_add_44 ?_
      refine lv_iload hx hb dX0_add_47 (lv_at hl 0 rfl) ?_
      refine lv_iload_n hx hb dX0_add_49 rfl (lv_at hl 2 rfl) ?_
      have hS := nA_S (A := A) hS
      refine xiast hx hb hK hP hD hS 5 0 rfl rfl (g := n) (x := c1) (hn16) (by decide) dX0_add_50 (fun H locs hP hD hS => ?_)
      have hP : va_P D vwCl (wX q (uF F 4 (upd (F 4) n c1)) (nI n) R cI cZ) H := hP
      have hD : va_D A (wX q (uF F 4 (upd (F 4) n c1)) (nI n) R cI cZ) := hD
      refine lv_aload_n hx hb dX0_add_51 rfl (lv_at hl 1 rfl) ?_
      refine va_get (D := D) (ci := 0) (v := .ref (q 5)) hx hb hts hin hown hK hP 0 rfl rfl 5 (by decide) f26 (fun _ h9 => h9) rfl dX0_add_52 ?_
      refine lv_iload hx hb dX0_add_55 (lv_at hl 0 rfl) ?_
      refine lv_iload_n hx hb dX0_add_57 rfl (lv_at hl 3 rfl) ?_
      refine xiast hx hb hK hP hD hS 6 0 rfl rfl (g := n) (x := c2) (hn16) (by decide) dX0_add_58 (fun H locs hP hD hS => ?_)
      have hP : va_P D vwCl (wX q (uF (uF F 4 (upd (F 4) n c1)) 5 (upd ((uF F 4 (upd (F 4) n c1)) 5) n c2)) (nI n) R cI cZ) H := hP
      have hD : va_D A (wX q (uF (uF F 4 (upd (F 4) n c1)) 5 (upd ((uF F 4 (upd (F 4) n c1)) 5) n c2)) (nI n) R cI cZ) := hD
      refine lv_aload_n hx hb dX0_add_59 rfl (lv_at hl 1 rfl) ?_
      refine va_get (D := D) (ci := 0) (v := .ref (q 6)) hx hb hts hin hown hK hP 0 rfl rfl 6 (by decide) f29 (fun _ h9 => h9) rfl dX0_add_60 ?_
      refine lv_iload hx hb dX0_add_63 (lv_at hl 0 rfl) ?_
      refine lv_iload_n hx hb dX0_add_65 rfl (lv_at hl 4 rfl) ?_
      refine xiast hx hb hK hP hD hS 7 0 rfl rfl (g := n) (x := x1) (hn16) (by decide) dX0_add_66 (fun H locs hP hD hS => ?_)
      have hP : va_P D vwCl (wX q (uF (uF (uF F 4 (upd (F 4) n c1)) 5 (upd ((uF F 4 (upd (F 4) n c1)) 5) n c2)) 6 (upd ((uF (uF F 4 (upd (F 4) n c1)) 5 (upd ((uF F 4 (upd (F 4) n c1)) 5) n c2)) 6) n x1)) (nI n) R cI cZ) H := hP
      have hD : va_D A (wX q (uF (uF (uF F 4 (upd (F 4) n c1)) 5 (upd ((uF F 4 (upd (F 4) n c1)) 5) n c2)) 6 (upd ((uF (uF F 4 (upd (F 4) n c1)) 5 (upd ((uF F 4 (upd (F 4) n c1)) 5) n c2)) 6) n x1)) (nI n) R cI cZ) := hD
      refine lv_aload_n hx hb dX0_add_67 rfl (lv_at hl 1 rfl) ?_
      refine va_get (D := D) (ci := 0) (v := .ref (q 7)) hx hb hts hin hown hK hP 0 rfl rfl 7 (by decide) f32 (fun _ h9 => h9) rfl dX0_add_68 ?_
      refine lv_iload hx hb dX0_add_71 (lv_at hl 0 rfl) ?_
      refine lv_iconst (v := (-1)) hx hb dX0_add_73 (by decide) ?_
      refine xiast hx hb hK hP hD hS 8 0 rfl rfl (g := n) (x := (-1)) (hn16) (by decide) dX0_add_74 (fun H locs hP hD hS => ?_)
      have hP : va_P D vwCl (wX q (uF (uF (uF (uF F 4 (upd (F 4) n c1)) 5 (upd ((uF F 4 (upd (F 4) n c1)) 5) n c2)) 6 (upd ((uF (uF F 4 (upd (F 4) n c1)) 5 (upd ((uF F 4 (upd (F 4) n c1)) 5) n c2)) 6) n x1)) 7 (upd ((uF (uF (uF F 4 (upd (F 4) n c1)) 5 (upd ((uF F 4 (upd (F 4) n c1)) 5) n c2)) 6 (upd ((uF (uF F 4 (upd (F 4) n c1)) 5 (upd ((uF F 4 (upd (F 4) n c1)) 5) n c2)) 6) n x1)) 7) n (-1))) (nI n) R cI cZ) H := hP
      have hD : va_D A (wX q (uF (uF (uF (uF F 4 (upd (F 4) n c1)) 5 (upd ((uF F 4 (upd (F 4) n c1)) 5) n c2)) 6 (upd ((uF (uF F 4 (upd (F 4) n c1)) 5 (upd ((uF F 4 (upd (F 4) n c1)) 5) n c2)) 6) n x1)) 7 (upd ((uF (uF (uF F 4 (upd (F 4) n c1)) 5 (upd ((uF F 4 (upd (F 4) n c1)) 5) n c2)) 6 (upd ((uF (uF F 4 (upd (F 4) n c1)) 5 (upd ((uF F 4 (upd (F 4) n c1)) 5) n c2)) 6) n x1)) 7) n (-1))) (nI n) R cI cZ) := hD
      refine lv_aload_n hx hb dX0_add_75 rfl (lv_at hl 1 rfl) ?_
      refine lv_iload hx hb dX0_add_76 (lv_at hl 0 rfl) ?_
      refine lv_iconst (v := 1) hx hb dX0_add_78 (by decide) ?_
      refine lv_iadd hx hb (x := (nI n)) (y := 1) dX0_add_79 ?_
      rw [nI_1 n]
      refine va_put (D := D) (ci := 0) (v := .int (nI (n + 1))) (ty := .int) hx hb hts hin tyX0 tyX0_ok nmX0 hown hK hP hD hS 0 rfl rfl 8 (by decide) f35 (fun _ h9 => h9) rfl (by decide +kernel) rfl rfl (Nat.le_of_ble_eq_true rfl) dX0_add_80 (fun H locs hP hD hS => ?_)
      have hP : va_P D vwCl (wX q (uF (uF (uF (uF F 4 (upd (F 4) n c1)) 5 (upd ((uF F 4 (upd (F 4) n c1)) 5) n c2)) 6 (upd ((uF (uF F 4 (upd (F 4) n c1)) 5 (upd ((uF F 4 (upd (F 4) n c1)) 5) n c2)) 6) n x1)) 7 (upd ((uF (uF (uF F 4 (upd (F 4) n c1)) 5 (upd ((uF F 4 (upd (F 4) n c1)) 5) n c2)) 6 (upd ((uF (uF F 4 (upd (F 4) n c1)) 5 (upd ((uF F 4 (upd (F 4) n c1)) 5) n c2)) 6) n x1)) 7) n (-1))) (nI (n + 1)) R cI cZ) H := hP
      have hD : va_D A (wX q (uF (uF (uF (uF F 4 (upd (F 4) n c1)) 5 (upd ((uF F 4 (upd (F 4) n c1)) 5) n c2)) 6 (upd ((uF (uF F 4 (upd (F 4) n c1)) 5 (upd ((uF F 4 (upd (F 4) n c1)) 5) n c2)) 6) n x1)) 7 (upd ((uF (uF (uF F 4 (upd (F 4) n c1)) 5 (upd ((uF F 4 (upd (F 4) n c1)) 5) n c2)) 6 (upd ((uF (uF F 4 (upd (F 4) n c1)) 5 (upd ((uF F 4 (upd (F 4) n c1)) 5) n c2)) 6) n x1)) 7) n (-1))) (nI (n + 1)) R cI cZ) := hD
      refine lv_iload hx hb dX0_add_83 (lv_at hl 0 rfl) ?_
      refine W.widen (k := 5) (n := 30) (Nat.le_of_ble_eq_true rfl) (Nat.le_of_ble_eq_true rfl) ?_
      exact vx_ret (W.iret hx hb hr (fun t ht hW => ⟨⟨_, (uF (uF (uF (uF F 4 (upd (F 4) n c1)) 5 (upd ((uF F 4 (upd (F 4) n c1)) 5) n c2)) 6 (upd ((uF (uF F 4 (upd (F 4) n c1)) 5 (upd ((uF F 4 (upd (F 4) n c1)) 5) n c2)) 6) n x1)) 7 (upd ((uF (uF (uF F 4 (upd (F 4) n c1)) 5 (upd ((uF F 4 (upd (F 4) n c1)) 5) n c2)) 6 (upd ((uF (uF F 4 (upd (F 4) n c1)) 5 (upd ((uF F 4 (upd (F 4) n c1)) 5) n c2)) 6) n x1)) 7) n (-1))), rfl, (by show (nI n) = nI n ∧ (uF (uF (uF (uF F 4 (upd (F 4) n c1)) 5 (upd ((uF F 4 (upd (F 4) n c1)) 5) n c2)) 6 (upd ((uF (uF F 4 (upd (F 4) n c1)) 5 (upd ((uF F 4 (upd (F 4) n c1)) 5) n c2)) 6) n x1)) 7 (upd ((uF (uF (uF F 4 (upd (F 4) n c1)) 5 (upd ((uF F 4 (upd (F 4) n c1)) 5) n c2)) 6 (upd ((uF (uF F 4 (upd (F 4) n c1)) 5 (upd ((uF F 4 (upd (F 4) n c1)) 5) n c2)) 6) n x1)) 7) n (-1))) = fAdd F n c1 c2 x1 ∧ thAdd n c1 c2 x1 = 0; exact ⟨rfl, rfl, thAdd_0 h_1 hso h_15 hn16⟩), by rw [ht]; exact hP, hD⟩, hS.F ht⟩) hS.2.2 dX0_add_85)
    · skip
      exact vx_throwS hx hb hfl (own := RX0) (cls := "java/lang/IllegalStateException") (text := "there are 16 goods already") (names := nmE) hown rfl (by decide) (hts (.classLink RX0 67 "java/lang/IllegalStateException") (by decide +kernel)) (hts (.initialized "java/lang/IllegalStateException") (by decide +kernel)) t2 (vx_hat (fun w hw => hts w (hat_is w hw)) bad_is (bW_use ht.1)) ot_is tU tN hS (hl.1.trans hml.symm) dX0_add_27 dX0_add_30 dX0_add_31 dX0_add_33 dX0_add_36 (fun x h => (htab x h).elim) (Nat.le_of_ble_eq_true rfl) (Nat.le_of_ble_eq_true rfl) (Nat.le_of_ble_eq_true rfl) (Nat.le_of_ble_eq_true rfl) hlocks (fun t _ h1 h2 => ⟨(), trivial, Or.inr ⟨rfl, thAdd_2 h_1 hso h_15 hw.n c_24⟩, xF hS h1 h2⟩) (fun z h => (hS.2.2 z h).elim) (Nat.le_of_ble_eq_true rfl) (Nat.le_of_ble_eq_true rfl)
  · skip
    refine lv_iload_n hx hb dX0_add_9 rfl (lv_at hl 2 rfl) ?_
    refine lv_iload_n hx hb dX0_add_10 rfl (lv_at hl 1 rfl) ?_
    refine tx_S (As := [.int c2, .int c1]) (rest := []) ⟨hx, hb, hml, hown, hts⟩ (c_X0_checkSubsidiary l hfl c2 c1) (va_cwS 2 hts gX0_add_X0_checkSubsidiary rfl rfl rfl (by decide +kernel) ⟨Nat.le_of_ble_eq_true rfl, Nat.le_of_ble_eq_true rfl⟩) ht hP hS rfl hl.1 rfl (Nat.le_of_ble_eq_true rfl) dX0_add_11 ⟨Nat.le_of_ble_eq_true rfl, Nat.le_of_ble_eq_true rfl⟩ (fun E ce q9 H locs hE hP hS hce hcv hcl => tx_out htab hlocks hS hce hcv hcl (Or.inl ⟨hE.1, thAdd_1 (Or.inr (Or.inl (subOk_f c_6 hE.2)))⟩) (Nat.le_of_ble_eq_true rfl) (Nat.le_of_ble_eq_true rfl)) (fun H locs h_11 hP hS => ?_)
    have hso : subOk c1 c2 = true := subOk_t (by first | exact Or.inl c_6 | exact Or.inr h_11)
    refine lv_iload_n hx hb dX0_add_14 rfl (lv_at hl 3 rfl) ?_
    refine tx_S (As := [.int x1]) (rest := []) ⟨hx, hb, hml, hown, hts⟩ (c_X0_checkQuantity l hfl x1) (va_cwS 1 hts gX0_add_X0_checkQuantity rfl rfl rfl (by decide +kernel) ⟨Nat.le_of_ble_eq_true rfl, Nat.le_of_ble_eq_true rfl⟩) ht hP hS rfl hl.1 rfl (Nat.le_of_ble_eq_true rfl) dX0_add_15 ⟨Nat.le_of_ble_eq_true rfl, Nat.le_of_ble_eq_true rfl⟩ (fun E ce q9 H locs hE hP hS hce hcv hcl => tx_out htab hlocks hS hce hcv hcl (Or.inl ⟨hE.1, thAdd_1 (Or.inr (Or.inr hE.2))⟩) (Nat.le_of_ble_eq_true rfl) (Nat.le_of_ble_eq_true rfl)) (fun H locs h_15 hP hS => ?_)
    refine lv_aload_n hx hb dX0_add_18 rfl (lv_at hl 0 rfl) ?_
    refine va_get (D := D) (ci := 0) (v := .int (nI n)) hx hb hts hin hown hK hP 0 rfl rfl 8 (by decide) f35 (fun _ h9 => h9) rfl dX0_add_19 ?_
    refine lv_bipush (v := 16) hx hb dX0_add_22 (by decide) ?_
    refine lv_icmp_lt (x := (nI n)) (y := 16) (tgt := 37) hx hb dX0_add_24 (by decide) (fun c_24 => ?_) (fun c_24 => ?_)
    · have hn16 : n < 16 := (nI_ltI (b := 16) (by have := hw.n; omega) (by decide)).mp c_24
      refine lv_aload_n hx hb dX0_add_37 rfl (lv_at hl 0 rfl) ?_
      refine va_get (D := D) (ci := 0) (v := .int (nI n)) hx hb hts hin hown hK hP 0 rfl rfl 8 (by decide) f35 (fun _ h9 => h9) rfl dX0_add_38 ?_
      refine lv_istore (lv' := [(4, .int (nI n)), (0, .ref (q 9)), (1, .int c1), (2, .int c2), (3, .int x1)]) hx hb dX0_add_41 hl (by decide) rfl (fun ls hl => ?_)
      refine lv_aload_n hx hb dX0_add_43 rfl (lv_at hl 1 rfl) ?_
      refine va_get (D := D) (ci := 0) (v := .ref (q 4)) hx hb hts hin hown hK hP 0 rfl rfl 4 (by decide) f23 (fun _ h9 => h9) rfl dX0_add_44 ?_
      refine lv_iload hx hb dX0_add_47 (lv_at hl 0 rfl) ?_
      refine lv_iload_n hx hb dX0_add_49 rfl (lv_at hl 2 rfl) ?_
      have hS := nA_S (A := A) hS
      refine xiast hx hb hK hP hD hS 5 0 rfl rfl (g := n) (x := c1) (hn16) (by decide) dX0_add_50 (fun H locs hP hD hS => ?_)
      have hP : va_P D vwCl (wX q (uF F 4 (upd (F 4) n c1)) (nI n) R cI cZ) H := hP
      have hD : va_D A (wX q (uF F 4 (upd (F 4) n c1)) (nI n) R cI cZ) := hD
      refine lv_aload_n hx hb dX0_add_51 rfl (lv_at hl 1 rfl) ?_
      refine va_get (D := D) (ci := 0) (v := .ref (q 5)) hx hb hts hin hown hK hP 0 rfl rfl 5 (by decide) f26 (fun _ h9 => h9) rfl dX0_add_52 ?_
      refine lv_iload hx hb dX0_add_55 (lv_at hl 0 rfl) ?_
      refine lv_iload_n hx hb dX0_add_57 rfl (lv_at hl 3 rfl) ?_
      refine xiast hx hb hK hP hD hS 6 0 rfl rfl (g := n) (x := c2) (hn16) (by decide) dX0_add_58 (fun H locs hP hD hS => ?_)
      have hP : va_P D vwCl (wX q (uF (uF F 4 (upd (F 4) n c1)) 5 (upd ((uF F 4 (upd (F 4) n c1)) 5) n c2)) (nI n) R cI cZ) H := hP
      have hD : va_D A (wX q (uF (uF F 4 (upd (F 4) n c1)) 5 (upd ((uF F 4 (upd (F 4) n c1)) 5) n c2)) (nI n) R cI cZ) := hD
      refine lv_aload_n hx hb dX0_add_59 rfl (lv_at hl 1 rfl) ?_
      refine va_get (D := D) (ci := 0) (v := .ref (q 6)) hx hb hts hin hown hK hP 0 rfl rfl 6 (by decide) f29 (fun _ h9 => h9) rfl dX0_add_60 ?_
      refine lv_iload hx hb dX0_add_63 (lv_at hl 0 rfl) ?_
      refine lv_iload_n hx hb dX0_add_65 rfl (lv_at hl 4 rfl) ?_
      refine xiast hx hb hK hP hD hS 7 0 rfl rfl (g := n) (x := x1) (hn16) (by decide) dX0_add_66 (fun H locs hP hD hS => ?_)
      have hP : va_P D vwCl (wX q (uF (uF (uF F 4 (upd (F 4) n c1)) 5 (upd ((uF F 4 (upd (F 4) n c1)) 5) n c2)) 6 (upd ((uF (uF F 4 (upd (F 4) n c1)) 5 (upd ((uF F 4 (upd (F 4) n c1)) 5) n c2)) 6) n x1)) (nI n) R cI cZ) H := hP
      have hD : va_D A (wX q (uF (uF (uF F 4 (upd (F 4) n c1)) 5 (upd ((uF F 4 (upd (F 4) n c1)) 5) n c2)) 6 (upd ((uF (uF F 4 (upd (F 4) n c1)) 5 (upd ((uF F 4 (upd (F 4) n c1)) 5) n c2)) 6) n x1)) (nI n) R cI cZ) := hD
      refine lv_aload_n hx hb dX0_add_67 rfl (lv_at hl 1 rfl) ?_
      refine va_get (D := D) (ci := 0) (v := .ref (q 7)) hx hb hts hin hown hK hP 0 rfl rfl 7 (by decide) f32 (fun _ h9 => h9) rfl dX0_add_68 ?_
      refine lv_iload hx hb dX0_add_71 (lv_at hl 0 rfl) ?_
      refine lv_iconst (v := (-1)) hx hb dX0_add_73 (by decide) ?_
      refine xiast hx hb hK hP hD hS 8 0 rfl rfl (g := n) (x := (-1)) (hn16) (by decide) dX0_add_74 (fun H locs hP hD hS => ?_)
      have hP : va_P D vwCl (wX q (uF (uF (uF (uF F 4 (upd (F 4) n c1)) 5 (upd ((uF F 4 (upd (F 4) n c1)) 5) n c2)) 6 (upd ((uF (uF F 4 (upd (F 4) n c1)) 5 (upd ((uF F 4 (upd (F 4) n c1)) 5) n c2)) 6) n x1)) 7 (upd ((uF (uF (uF F 4 (upd (F 4) n c1)) 5 (upd ((uF F 4 (upd (F 4) n c1)) 5) n c2)) 6 (upd ((uF (uF F 4 (upd (F 4) n c1)) 5 (upd ((uF F 4 (upd (F 4) n c1)) 5) n c2)) 6) n x1)) 7) n (-1))) (nI n) R cI cZ) H := hP
      have hD : va_D A (wX q (uF (uF (uF (uF F 4 (upd (F 4) n c1)) 5 (upd ((uF F 4 (upd (F 4) n c1)) 5) n c2)) 6 (upd ((uF (uF F 4 (upd (F 4) n c1)) 5 (upd ((uF F 4 (upd (F 4) n c1)) 5) n c2)) 6) n x1)) 7 (upd ((uF (uF (uF F 4 (upd (F 4) n c1)) 5 (upd ((uF F 4 (upd (F 4) n c1)) 5) n c2)) 6 (upd ((uF (uF F 4 (upd (F 4) n c1)) 5 (upd ((uF F 4 (upd (F 4) n c1)) 5) n c2)) 6) n x1)) 7) n (-1))) (nI n) R cI cZ) := hD
      refine lv_aload_n hx hb dX0_add_75 rfl (lv_at hl 1 rfl) ?_
      refine lv_iload hx hb dX0_add_76 (lv_at hl 0 rfl) ?_
      refine lv_iconst (v := 1) hx hb dX0_add_78 (by decide) ?_
      refine lv_iadd hx hb (x := (nI n)) (y := 1) dX0_add_79 ?_
      rw [nI_1 n]
      refine va_put (D := D) (ci := 0) (v := .int (nI (n + 1))) (ty := .int) hx hb hts hin tyX0 tyX0_ok nmX0 hown hK hP hD hS 0 rfl rfl 8 (by decide) f35 (fun _ h9 => h9) rfl (by decide +kernel) rfl rfl (Nat.le_of_ble_eq_true rfl) dX0_add_80 (fun H locs hP hD hS => ?_)
      have hP : va_P D vwCl (wX q (uF (uF (uF (uF F 4 (upd (F 4) n c1)) 5 (upd ((uF F 4 (upd (F 4) n c1)) 5) n c2)) 6 (upd ((uF (uF F 4 (upd (F 4) n c1)) 5 (upd ((uF F 4 (upd (F 4) n c1)) 5) n c2)) 6) n x1)) 7 (upd ((uF (uF (uF F 4 (upd (F 4) n c1)) 5 (upd ((uF F 4 (upd (F 4) n c1)) 5) n c2)) 6 (upd ((uF (uF F 4 (upd (F 4) n c1)) 5 (upd ((uF F 4 (upd (F 4) n c1)) 5) n c2)) 6) n x1)) 7) n (-1))) (nI (n + 1)) R cI cZ) H := hP
      have hD : va_D A (wX q (uF (uF (uF (uF F 4 (upd (F 4) n c1)) 5 (upd ((uF F 4 (upd (F 4) n c1)) 5) n c2)) 6 (upd ((uF (uF F 4 (upd (F 4) n c1)) 5 (upd ((uF F 4 (upd (F 4) n c1)) 5) n c2)) 6) n x1)) 7 (upd ((uF (uF (uF F 4 (upd (F 4) n c1)) 5 (upd ((uF F 4 (upd (F 4) n c1)) 5) n c2)) 6 (upd ((uF (uF F 4 (upd (F 4) n c1)) 5 (upd ((uF F 4 (upd (F 4) n c1)) 5) n c2)) 6) n x1)) 7) n (-1))) (nI (n + 1)) R cI cZ) := hD
      refine lv_iload hx hb dX0_add_83 (lv_at hl 0 rfl) ?_
      refine W.widen (k := 5) (n := 30) (Nat.le_of_ble_eq_true rfl) (Nat.le_of_ble_eq_true rfl) ?_
      exact vx_ret (W.iret hx hb hr (fun t ht hW => ⟨⟨_, (uF (uF (uF (uF F 4 (upd (F 4) n c1)) 5 (upd ((uF F 4 (upd (F 4) n c1)) 5) n c2)) 6 (upd ((uF (uF F 4 (upd (F 4) n c1)) 5 (upd ((uF F 4 (upd (F 4) n c1)) 5) n c2)) 6) n x1)) 7 (upd ((uF (uF (uF F 4 (upd (F 4) n c1)) 5 (upd ((uF F 4 (upd (F 4) n c1)) 5) n c2)) 6 (upd ((uF (uF F 4 (upd (F 4) n c1)) 5 (upd ((uF F 4 (upd (F 4) n c1)) 5) n c2)) 6) n x1)) 7) n (-1))), rfl, (by show (nI n) = nI n ∧ (uF (uF (uF (uF F 4 (upd (F 4) n c1)) 5 (upd ((uF F 4 (upd (F 4) n c1)) 5) n c2)) 6 (upd ((uF (uF F 4 (upd (F 4) n c1)) 5 (upd ((uF F 4 (upd (F 4) n c1)) 5) n c2)) 6) n x1)) 7 (upd ((uF (uF (uF F 4 (upd (F 4) n c1)) 5 (upd ((uF F 4 (upd (F 4) n c1)) 5) n c2)) 6 (upd ((uF (uF F 4 (upd (F 4) n c1)) 5 (upd ((uF F 4 (upd (F 4) n c1)) 5) n c2)) 6) n x1)) 7) n (-1))) = fAdd F n c1 c2 x1 ∧ thAdd n c1 c2 x1 = 0; exact ⟨rfl, rfl, thAdd_0 h_1 hso h_15 hn16⟩), by rw [ht]; exact hP, hD⟩, hS.F ht⟩) hS.2.2 dX0_add_85)
    · skip
      exact vx_throwS hx hb hfl (own := RX0) (cls := "java/lang/IllegalStateException") (text := "there are 16 goods already") (names := nmE) hown rfl (by decide) (hts (.classLink RX0 67 "java/lang/IllegalStateException") (by decide +kernel)) (hts (.initialized "java/lang/IllegalStateException") (by decide +kernel)) t2 (vx_hat (fun w hw => hts w (hat_is w hw)) bad_is (bW_use ht.1)) ot_is tU tN hS (hl.1.trans hml.symm) dX0_add_27 dX0_add_30 dX0_add_31 dX0_add_33 dX0_add_36 (fun x h => (htab x h).elim) (Nat.le_of_ble_eq_true rfl) (Nat.le_of_ble_eq_true rfl) (Nat.le_of_ble_eq_true rfl) (Nat.le_of_ble_eq_true rfl) hlocks (fun t _ h1 h2 => ⟨(), trivial, Or.inr ⟨rfl, thAdd_2 h_1 hso h_15 hw.n c_24⟩, xF hS h1 h2⟩) (fun z h => (hS.2.2 z h).elim) (Nat.le_of_ble_eq_true rfl) (Nat.le_of_ble_eq_true rfl)
set_option maxHeartbeats 4000000 in
set_option maxRecDepth 100000 in
theorem c_X0_setQuantity (l : Launch) (hfl : l.stackTraces = false) (D : va_G) (q : Nat → Nat) (F : Nat → Nat → Int32) (n : Nat) (R : Nat → Int32) (cI cZ : ClassId) (sz : Nat) (v : Int32) (x1 : Int32) (hw : WF F n) : vx_Met l yX0_setQuantity wsX0_setQuantity ({ frames := 8, cells := 2, slots := 12, locals := 132 }) (va_Pc [.ref (q 9), .int v, .int x1] (xS D (wX q F (nI n) R cI cZ) (tIZ cI cZ) sz)) (va_Qi (fun (r : Int32) (u : Nat → Nat → Int32) => r = F 6 (gi v) ∧ u = fQ F (gi v) x1 ∧ thQ n v x1 = 0) (wB D (va_A (wX q F (nI n) R cI cZ) sz) (fun (u : Nat → Nat → Int32) => wX q u (nI n) R cI cZ)) (va_A (wX q F (nI n) R cI cZ) sz)) (XB (fun E => (E = "java/lang/IndexOutOfBoundsException" ∧ thQ n v x1 = 1) ∨ (E = "java/lang/IllegalArgumentException" ∧ thQ n v x1 = 2))) 2 12 (va_A (wX q F (nI n) R cI cZ) sz) := by
  refine wrx_of (Qc := fun A => (va_Qi (fun (r : Int32) (u : Nat → Nat → Int32) => r = F 6 (gi v) ∧ u = fQ F (gi v) x1 ∧ thQ n v x1 = 0) (wB D A (fun (u : Nat → Nat → Int32) => wX q u (nI n) R cI cZ)) A)) (own := RX0) (cc := cX0_setQuantity) (maxL := 4) (ret := (some .int)) (by decide) rfl rfl (Nat.le_of_ble_eq_true rfl) ?_
  intro p9 e9 s m9 a9 below meth c9 ls A hx hb hr hml hlocks hown hts htab ht hP hK hD hA hl
  have hin : ∀ w ∈ wsX00, w ∈ wsX0_setQuantity := by decide +kernel
  have f29 := hts (.fieldLink RX0 29 "DangerousGoods" "quantities" "[I") (by decide +kernel)
  have hS : va_S nA s.heap s.heap [] := va_S.rf
  have hl : lv_has ls 4 [(0, .ref (q 9)), (1, .int v), (2, .int x1)] := hl
  refine lv_aload_n hx hb dX0_setQuantity_0 rfl (lv_at hl 0 rfl) ?_
  refine lv_iload_n hx hb dX0_setQuantity_1 rfl (lv_at hl 1 rfl) ?_
  refine tx_V (As := [.int v]) (rest := []) ⟨hx, hb, hml, hown, hts⟩ (c_X0_checkGoods l hfl D q F n R cI cZ v hw.n) (cwV 1 hts gX0_setQuantity_X0_checkGoods rfl rfl rfl (by decide +kernel) ⟨Nat.le_of_ble_eq_true rfl, Nat.le_of_ble_eq_true rfl⟩) ht hK hP hP (va_recv hK hP (ci := 0) (q0 := 0) rfl rfl) hS rfl hl.1 rfl (Nat.le_of_ble_eq_true rfl) dX0_setQuantity_2 ⟨Nat.le_of_ble_eq_true rfl, Nat.le_of_ble_eq_true rfl⟩ (fun E ce q9 H locs hE hP hS hce hcv hcl => tx_out htab hlocks hS hce hcv hcl (Or.inl ⟨hE.1, thQ_1 hE.2⟩) (Nat.le_of_ble_eq_true rfl) (Nat.le_of_ble_eq_true rfl)) (fun H locs h_2 hP hS => ?_)
  obtain ⟨g, hg, rfl⟩ := (gd_iff hw.n).mp h_2
  have eg : gi (nI g) = g := gi_nI (by have := hw.n; omega)
  refine lv_iload_n hx hb dX0_setQuantity_5 rfl (lv_at hl 2 rfl) ?_
  refine tx_S (As := [.int x1]) (rest := []) ⟨hx, hb, hml, hown, hts⟩ (c_X0_checkQuantity l hfl x1) (va_cwS 1 hts gX0_setQuantity_X0_checkQuantity rfl rfl rfl (by decide +kernel) ⟨Nat.le_of_ble_eq_true rfl, Nat.le_of_ble_eq_true rfl⟩) ht hP hS rfl hl.1 rfl (Nat.le_of_ble_eq_true rfl) dX0_setQuantity_6 ⟨Nat.le_of_ble_eq_true rfl, Nat.le_of_ble_eq_true rfl⟩ (fun E ce q9 H locs hE hP hS hce hcv hcl => tx_out htab hlocks hS hce hcv hcl (Or.inr ⟨hE.1, thQ_2 h_2 hE.2⟩) (Nat.le_of_ble_eq_true rfl) (Nat.le_of_ble_eq_true rfl)) (fun H locs h_6 hP hS => ?_)
  refine lv_aload_n hx hb dX0_setQuantity_9 rfl (lv_at hl 0 rfl) ?_
  refine va_get (D := D) (ci := 0) (v := .ref (q 6)) hx hb hts hin hown hK hP 0 rfl rfl 6 (by decide) f29 (fun _ h9 => h9) rfl dX0_setQuantity_10 ?_
  refine lv_iload_n hx hb dX0_setQuantity_13 rfl (lv_at hl 1 rfl) ?_
  refine xiald hx hb hK hP 7 0 rfl rfl (g := g) (hw.g hg) (by decide) dX0_setQuantity_14 ?_
  refine lv_istore_n (lv' := [(3, .int (F 6 g)), (0, .ref (q 9)), (1, .int (nI g)), (2, .int x1)]) hx hb dX0_setQuantity_15 rfl hl (by decide) rfl (fun ls hl => ?_)
  refine lv_aload_n hx hb dX0_setQuantity_16 rfl (lv_at hl 1 rfl) ?_
  refine va_get (D := D) (ci := 0) (v := .ref (q 6)) hx hb hts hin hown hK hP 0 rfl rfl 6 (by decide) f29 (fun _ h9 => h9) rfl dX0_setQuantity_17 ?_
  refine lv_iload_n hx hb dX0_setQuantity_20 rfl (lv_at hl 2 rfl) ?_
  refine lv_iload_n hx hb dX0_setQuantity_21 rfl (lv_at hl 3 rfl) ?_
  have hS := nA_S (A := A) hS
  refine xiast hx hb hK hP hD hS 7 0 rfl rfl (g := g) (x := x1) (hw.g hg) (by decide) dX0_setQuantity_22 (fun H locs hP hD hS => ?_)
  have hP : va_P D vwCl (wX q (uF F 6 (upd (F 6) g x1)) (nI n) R cI cZ) H := hP
  have hD : va_D A (wX q (uF F 6 (upd (F 6) g x1)) (nI n) R cI cZ) := hD
  refine lv_iload_n hx hb dX0_setQuantity_23 rfl (lv_at hl 0 rfl) ?_
  refine W.widen (k := 2) (n := 12) (Nat.le_of_ble_eq_true rfl) (Nat.le_of_ble_eq_true rfl) ?_
  exact vx_ret (W.iret hx hb hr (fun t ht hW => ⟨⟨_, (uF F 6 (upd (F 6) g x1)), rfl, (by show (F 6 g) = F 6 (gi (nI g)) ∧ (uF F 6 (upd (F 6) g x1)) = fQ F (gi (nI g)) x1 ∧ thQ n (nI g) x1 = 0; rw [eg]; exact ⟨rfl, rfl, thQ_0 h_2 h_6⟩), by rw [ht]; exact hP, hD⟩, hS.F ht⟩) hS.2.2 dX0_setQuantity_24)
set_option maxHeartbeats 4000000 in
set_option maxRecDepth 100000 in
theorem c_X0_put (l : Launch) (hfl : l.stackTraces = false) (D : va_G) (q : Nat → Nat) (F : Nat → Nat → Int32) (n : Nat) (R : Nat → Int32) (cI cZ : ClassId) (sz : Nat) (v : Int32) (x1 : Int32) (hw : WF F n) : vx_Met l yX0_put wsX0_put ({ frames := 8, cells := 2, slots := 12, locals := 132 }) (va_Pc [.ref (q 9), .int v, .int x1] (xS D (wX q F (nI n) R cI cZ) (tIZ cI cZ) sz)) (va_Qi (fun (r : Int32) (u : Nat → Nat → Int32) => r = F 7 (gi v) ∧ u = fP F (gi v) x1 ∧ thP n v x1 = 0) (wB D (va_A (wX q F (nI n) R cI cZ) sz) (fun (u : Nat → Nat → Int32) => wX q u (nI n) R cI cZ)) (va_A (wX q F (nI n) R cI cZ) sz)) (XB (fun E => (E = "java/lang/IndexOutOfBoundsException" ∧ thP n v x1 = 1) ∨ (E = "java/lang/IllegalArgumentException" ∧ thP n v x1 = 2))) 2 12 (va_A (wX q F (nI n) R cI cZ) sz) := by
  refine wrx_of (Qc := fun A => (va_Qi (fun (r : Int32) (u : Nat → Nat → Int32) => r = F 7 (gi v) ∧ u = fP F (gi v) x1 ∧ thP n v x1 = 0) (wB D A (fun (u : Nat → Nat → Int32) => wX q u (nI n) R cI cZ)) A)) (own := RX0) (cc := cX0_put) (maxL := 4) (ret := (some .int)) (by decide) rfl rfl (Nat.le_of_ble_eq_true rfl) ?_
  intro p9 e9 s m9 a9 below meth c9 ls A hx hb hr hml hlocks hown hts htab ht hP hK hD hA hl
  have hin : ∀ w ∈ wsX00, w ∈ wsX0_put := by decide +kernel
  have f32 := hts (.fieldLink RX0 32 "DangerousGoods" "places" "[I") (by decide +kernel)
  have hS : va_S nA s.heap s.heap [] := va_S.rf
  have hl : lv_has ls 4 [(0, .ref (q 9)), (1, .int v), (2, .int x1)] := hl
  refine lv_aload_n hx hb dX0_put_0 rfl (lv_at hl 0 rfl) ?_
  refine lv_iload_n hx hb dX0_put_1 rfl (lv_at hl 1 rfl) ?_
  refine tx_V (As := [.int v]) (rest := []) ⟨hx, hb, hml, hown, hts⟩ (c_X0_checkGoods l hfl D q F n R cI cZ v hw.n) (cwV 1 hts gX0_put_X0_checkGoods rfl rfl rfl (by decide +kernel) ⟨Nat.le_of_ble_eq_true rfl, Nat.le_of_ble_eq_true rfl⟩) ht hK hP hP (va_recv hK hP (ci := 0) (q0 := 0) rfl rfl) hS rfl hl.1 rfl (Nat.le_of_ble_eq_true rfl) dX0_put_2 ⟨Nat.le_of_ble_eq_true rfl, Nat.le_of_ble_eq_true rfl⟩ (fun E ce q9 H locs hE hP hS hce hcv hcl => tx_out htab hlocks hS hce hcv hcl (Or.inl ⟨hE.1, thP_1 hE.2⟩) (Nat.le_of_ble_eq_true rfl) (Nat.le_of_ble_eq_true rfl)) (fun H locs h_2 hP hS => ?_)
  obtain ⟨g, hg, rfl⟩ := (gd_iff hw.n).mp h_2
  have eg : gi (nI g) = g := gi_nI (by have := hw.n; omega)
  refine lv_iload_n hx hb dX0_put_5 rfl (lv_at hl 2 rfl) ?_
  refine lv_iconst (v := (-1)) hx hb dX0_put_6 (by decide) ?_
  refine lv_icmp_eq (x := x1) (y := (-1)) (tgt := 14) hx hb dX0_put_7 (by decide) (fun c_7 => ?_) (fun c_7 => ?_)
  · skip
    refine lv_aload_n hx hb dX0_put_14 rfl (lv_at hl 0 rfl) ?_
    refine va_get (D := D) (ci := 0) (v := .ref (q 7)) hx hb hts hin hown hK hP 0 rfl rfl 7 (by decide) f32 (fun _ h9 => h9) rfl dX0_put_15 ?_
    refine lv_iload_n hx hb dX0_put_18 rfl (lv_at hl 1 rfl) ?_
    refine xiald hx hb hK hP 8 0 rfl rfl (g := g) (hw.g hg) (by decide) dX0_put_19 ?_
    refine lv_istore_n (lv' := [(3, .int (F 7 g)), (0, .ref (q 9)), (1, .int (nI g)), (2, .int x1)]) hx hb dX0_put_20 rfl hl (by decide) rfl (fun ls hl => ?_)
    refine lv_aload_n hx hb dX0_put_21 rfl (lv_at hl 1 rfl) ?_
    refine va_get (D := D) (ci := 0) (v := .ref (q 7)) hx hb hts hin hown hK hP 0 rfl rfl 7 (by decide) f32 (fun _ h9 => h9) rfl dX0_put_22 ?_
    refine lv_iload_n hx hb dX0_put_25 rfl (lv_at hl 2 rfl) ?_
    refine lv_iload_n hx hb dX0_put_26 rfl (lv_at hl 3 rfl) ?_
    have hS := nA_S (A := A) hS
    refine xiast hx hb hK hP hD hS 8 0 rfl rfl (g := g) (x := x1) (hw.g hg) (by decide) dX0_put_27 (fun H locs hP hD hS => ?_)
    have hP : va_P D vwCl (wX q (uF F 7 (upd (F 7) g x1)) (nI n) R cI cZ) H := hP
    have hD : va_D A (wX q (uF F 7 (upd (F 7) g x1)) (nI n) R cI cZ) := hD
    refine lv_iload_n hx hb dX0_put_28 rfl (lv_at hl 0 rfl) ?_
    refine W.widen (k := 2) (n := 12) (Nat.le_of_ble_eq_true rfl) (Nat.le_of_ble_eq_true rfl) ?_
    exact vx_ret (W.iret hx hb hr (fun t ht hW => ⟨⟨_, (uF F 7 (upd (F 7) g x1)), rfl, (by show (F 7 g) = F 7 (gi (nI g)) ∧ (uF F 7 (upd (F 7) g x1)) = fP F (gi (nI g)) x1 ∧ thP n (nI g) x1 = 0; rw [eg]; exact ⟨rfl, rfl, thP_0 h_2 (by first | exact Or.inl c_7 | exact Or.inr h_11)⟩), by rw [ht]; exact hP, hD⟩, hS.F ht⟩) hS.2.2 dX0_put_29)
  · skip
    refine lv_iload_n hx hb dX0_put_10 rfl (lv_at hl 2 rfl) ?_
    refine tx_S (As := [.int x1]) (rest := []) ⟨hx, hb, hml, hown, hts⟩ (c_X0_checkPlace l hfl x1) (va_cwS 1 hts gX0_put_X0_checkPlace rfl rfl rfl (by decide +kernel) ⟨Nat.le_of_ble_eq_true rfl, Nat.le_of_ble_eq_true rfl⟩) ht hP hS rfl hl.1 rfl (Nat.le_of_ble_eq_true rfl) dX0_put_11 ⟨Nat.le_of_ble_eq_true rfl, Nat.le_of_ble_eq_true rfl⟩ (fun E ce q9 H locs hE hP hS hce hcv hcl => tx_out htab hlocks hS hce hcv hcl (Or.inr ⟨hE.1, thP_2 h_2 c_7 hE.2⟩) (Nat.le_of_ble_eq_true rfl) (Nat.le_of_ble_eq_true rfl)) (fun H locs h_11 hP hS => ?_)
    refine lv_aload_n hx hb dX0_put_14 rfl (lv_at hl 0 rfl) ?_
    refine va_get (D := D) (ci := 0) (v := .ref (q 7)) hx hb hts hin hown hK hP 0 rfl rfl 7 (by decide) f32 (fun _ h9 => h9) rfl dX0_put_15 ?_
    refine lv_iload_n hx hb dX0_put_18 rfl (lv_at hl 1 rfl) ?_
    refine xiald hx hb hK hP 8 0 rfl rfl (g := g) (hw.g hg) (by decide) dX0_put_19 ?_
    refine lv_istore_n (lv' := [(3, .int (F 7 g)), (0, .ref (q 9)), (1, .int (nI g)), (2, .int x1)]) hx hb dX0_put_20 rfl hl (by decide) rfl (fun ls hl => ?_)
    refine lv_aload_n hx hb dX0_put_21 rfl (lv_at hl 1 rfl) ?_
    refine va_get (D := D) (ci := 0) (v := .ref (q 7)) hx hb hts hin hown hK hP 0 rfl rfl 7 (by decide) f32 (fun _ h9 => h9) rfl dX0_put_22 ?_
    refine lv_iload_n hx hb dX0_put_25 rfl (lv_at hl 2 rfl) ?_
    refine lv_iload_n hx hb dX0_put_26 rfl (lv_at hl 3 rfl) ?_
    have hS := nA_S (A := A) hS
    refine xiast hx hb hK hP hD hS 8 0 rfl rfl (g := g) (x := x1) (hw.g hg) (by decide) dX0_put_27 (fun H locs hP hD hS => ?_)
    have hP : va_P D vwCl (wX q (uF F 7 (upd (F 7) g x1)) (nI n) R cI cZ) H := hP
    have hD : va_D A (wX q (uF F 7 (upd (F 7) g x1)) (nI n) R cI cZ) := hD
    refine lv_iload_n hx hb dX0_put_28 rfl (lv_at hl 0 rfl) ?_
    refine W.widen (k := 2) (n := 12) (Nat.le_of_ble_eq_true rfl) (Nat.le_of_ble_eq_true rfl) ?_
    exact vx_ret (W.iret hx hb hr (fun t ht hW => ⟨⟨_, (uF F 7 (upd (F 7) g x1)), rfl, (by show (F 7 g) = F 7 (gi (nI g)) ∧ (uF F 7 (upd (F 7) g x1)) = fP F (gi (nI g)) x1 ∧ thP n (nI g) x1 = 0; rw [eg]; exact ⟨rfl, rfl, thP_0 h_2 (by first | exact Or.inl c_7 | exact Or.inr h_11)⟩), by rw [ht]; exact hP, hD⟩, hS.F ht⟩) hS.2.2 dX0_put_29)

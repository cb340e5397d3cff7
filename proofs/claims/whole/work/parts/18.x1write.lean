/-! the reference: calls that write the state -/
theorem b3_nar2 {F : Nat → Nat → Int32} {n i : Nat} (hw : WF F n) (hi : i < 20) : narrow .boolean (.int (F 3 i)) = .int (F 3 i) := by
  rcases hw.b3 hi with k | k <;> rw [k] <;> rfl
theorem xzast {p : Program} {l : Launch} {e : Env} {R : Room} {s : State} {m : MethodId} {args : Array Value} {below : List Frame} {meth : Method} {c : Code} {H H0 : Heap} {locs : List Loc} {cells slots : Nat} {Q : State → Prop} {cc : ByteArray} {pc : Nat} {ls : Array Slot} {rest : List Value} {D : va_G} {cl : List vw_C} {A : Nat → Prop} {a : Nat} {tys : List (ClassId × FieldType)} {ws : va_W}
    (hexec : p.tables.exec = Jvm.exec) (hb : c.code = cc) (hK : va_K D cl tys s) (hP : va_P D cl ws H) (hD : va_D A ws) (hS : va_S A H0 H locs) (q0 t0 : Nat) {cA : ClassId} {n : Nat} {f : Nat → Int32} (ha : ws[q0]? = some (a, .inl (cA, n, .inl f))) (ht : tys[t0]? = some (cA, .boolean)) {g : Nat} {x : Int32} (hg : g < n) (hn : n < 2 ^ 31) (hdg : decode cc pc = .ok (.bastore, 1))
    (kk : ∀ (H1 : Heap) (locs1 : List Loc), va_P D cl (ws.set q0 (a, .inl (cA, n, .inl (upd f g (vp_nar .boolean x))))) H1 → va_D A (ws.set q0 (a, .inl (cA, n, .inl (upd f g (vp_nar .boolean x))))) → va_S A H0 H1 locs1 → W p l e R s m args below meth c H1 locs1 cells slots Q (F0 m (pc + 1) ls rest)) : W p l e R s m args below meth c H locs cells slots Q (F0 m pc ls (.int x :: .int (nI g) :: .ref a :: rest)) := by
  refine va_zast hexec hb hK hP hD hS q0 t0 ha ht (vp_in_nI hg hn) hdg ?_
  rw [nI_clamp (Nat.lt_trans hg hn)]
  exact kk
set_option maxHeartbeats 4000000 in
set_option maxRecDepth 100000 in
theorem c_X1_setDistance (l : Launch) (D : va_G) (q : Nat → Nat) (F : Nat → Nat → Int32) (n : Nat) (R : Nat → Int32) (th : Int32) (cI cZ : ClassId) (sz : Nat) (c1 : Int32) (c2 : Int32) (d1 : Int32) (hw : WF F n) : Met l yX1_setDistance wsX1_setDistance ({ frames := 2, cells := 0, slots := 0, locals := 42 }) (va_Pc [.ref (q 9), .int c1, .int c2, .int d1] (wS D (wM q F (nI n) R th cI cZ) (tIZ cI cZ) sz)) (va_Qi (fun (r : Int32) (u : Int32 × (Nat → Nat → Int32)) => u.1 = thSD c1 c2 d1 ∧ (thSD c1 c2 d1 = 0 → r = F 0 (c1 * 10 + c2).toNatClampNeg ∧ u.2 = fSD F c1 c2 d1) ∧ (¬ thSD c1 c2 d1 = 0 → u.2 = F)) (wB D (va_A (wM q F (nI n) R th cI cZ) sz) (fun (u : Int32 × (Nat → Nat → Int32)) => wM q u.2 (nI n) R u.1 cI cZ)) (va_A (wM q F (nI n) R th cI cZ) sz)) 0 0 (va_A (wM q F (nI n) R th cI cZ) sz) := by
  refine wr_of (own := RX1) (cc := cX1_setDistance) (maxL := 5) (ret := (some .int)) (by decide) rfl rfl (Nat.le_of_ble_eq_true rfl) ?_
  intro p9 e9 s m9 a9 below meth c9 ls A hx hb hr hml hlocks hown hts hP hK hD hA hl
  have hin : ∀ w ∈ wsX10, w ∈ wsX1_setDistance := by decide +kernel
  have f7 := hts (.fieldLink RX1 7 "DangerousGoodsModel" "table" "[I") (by decide +kernel)
  have hS : va_S A s.heap s.heap [] := va_S.rf
  have hl : lv_has ls 5 [(0, .ref (q 9)), (1, .int c1), (2, .int c2), (3, .int d1)] := hl
  refine lv_aload_n hx hb dX1_setDistance_0 rfl (lv_at hl 0 rfl) ?_
  refine lv_iload_n hx hb dX1_setDistance_1 rfl (lv_at hl 1 rfl) ?_
  refine ro_S (As := [.int c1]) (rest := [.ref (q 9)]) ⟨hx, hb, hml, hown, hts⟩ (c_X1_isClass l c1) (va_cwS 1 hts gX1_setDistance_X1_isClass rfl rfl rfl (by decide +kernel) ⟨Nat.le_of_ble_eq_true rfl, Nat.le_of_ble_eq_true rfl⟩) hP hS rfl hl.1 rfl (Nat.le_of_ble_eq_true rfl) dX1_setDistance_2 ⟨Nat.le_of_ble_eq_true rfl, Nat.le_of_ble_eq_true rfl⟩ (fun r H locs hr9 hP hS => ?_)
  subst hr9
  refine lv_if_eq (x := (bi (mIn c1 1 9))) (tgt := 28) hx hb dX1_setDistance_5 (by decide) (fun c_5 => ?_) (fun c_5 => ?_)
  · have c_5 := bi_e0.mp c_5
    refine lv_iconst (v := 1) hx hb dX1_setDistance_28 (by decide) ?_
    refine wr_V (As := [.int 1]) (rest := []) (wr := []) ⟨hx, hb, hml, hown, hts⟩ (c_X1_goes l D q F n R th cI cZ _ 1) (cwV 1 hts gX1_setDistance_X1_goes rfl rfl rfl (by decide +kernel) ⟨Nat.le_of_ble_eq_true rfl, Nat.le_of_ble_eq_true rfl⟩) hK hP hD hA [0, 1, 2, 3, 4, 5, 6, 7, 8, 9] [] rfl rfl (by decide) rfl (by decide) (by decide) (va_recv hK hP (ci := 1) (q0 := 0) rfl rfl) hS rfl hl.1 rfl (Nat.le_of_ble_eq_true rfl) dX1_setDistance_29 ⟨Nat.le_of_ble_eq_true rfl, Nat.le_of_ble_eq_true rfl⟩ (fun r9 u9 H locs h_29 hP hD hS => ?_)
    have hP : va_P D vwCl (wM q F (nI n) R 1 cI cZ) H := hP
    have hD : va_D A (wM q F (nI n) R 1 cI cZ) := hD
    obtain rfl : r9 = 0 := h_29.trans (by decide)
    refine lv_if_ne (x := 0) (tgt := 37) hx hb dX1_setDistance_32 (by decide) (fun k => absurd (by decide) k) (fun _ => ?_)
    refine lv_iconst (v := 0) hx hb dX1_setDistance_35 (by decide) ?_
    exact W.iret hx hb hr (fun t ht hW => ⟨⟨_, (1, F), rfl, (by show (1, F).1 = thSD c1 c2 d1 ∧ (thSD c1 c2 d1 = 0 → 0 = F 0 (c1 * 10 + c2).toNatClampNeg ∧ (1, F).2 = fSD F c1 c2 d1) ∧ (¬ thSD c1 c2 d1 = 0 → (1, F).2 = F); have e9 : thSD c1 c2 d1 = 1 := (by simp [thSD, c_5]); exact ⟨e9.symm, fun h9 => absurd (e9.symm.trans h9) (by decide), fun _ => rfl⟩), by rw [ht]; exact hP, hD⟩, hS.F ht⟩) hS.2.2 dX1_setDistance_36
  · have c_5 := bi_n0.mp c_5
    refine lv_iload_n hx hb dX1_setDistance_8 rfl (lv_at hl 2 rfl) ?_
    refine ro_S (As := [.int c2]) (rest := [.ref (q 9)]) ⟨hx, hb, hml, hown, hts⟩ (c_X1_isClass l c2) (va_cwS 1 hts gX1_setDistance_X1_isClass rfl rfl rfl (by decide +kernel) ⟨Nat.le_of_ble_eq_true rfl, Nat.le_of_ble_eq_true rfl⟩) hP hS rfl hl.1 rfl (Nat.le_of_ble_eq_true rfl) dX1_setDistance_9 ⟨Nat.le_of_ble_eq_true rfl, Nat.le_of_ble_eq_true rfl⟩ (fun r H locs hr9 hP hS => ?_)
    subst hr9
    refine lv_if_eq (x := (bi (mIn c2 1 9))) (tgt := 28) hx hb dX1_setDistance_12 (by decide) (fun c_12 => ?_) (fun c_12 => ?_)
    · have c_12 := bi_e0.mp c_12
      refine lv_iconst (v := 1) hx hb dX1_setDistance_28 (by decide) ?_
      refine wr_V (As := [.int 1]) (rest := []) (wr := []) ⟨hx, hb, hml, hown, hts⟩ (c_X1_goes l D q F n R th cI cZ _ 1) (cwV 1 hts gX1_setDistance_X1_goes rfl rfl rfl (by decide +kernel) ⟨Nat.le_of_ble_eq_true rfl, Nat.le_of_ble_eq_true rfl⟩) hK hP hD hA [0, 1, 2, 3, 4, 5, 6, 7, 8, 9] [] rfl rfl (by decide) rfl (by decide) (by decide) (va_recv hK hP (ci := 1) (q0 := 0) rfl rfl) hS rfl hl.1 rfl (Nat.le_of_ble_eq_true rfl) dX1_setDistance_29 ⟨Nat.le_of_ble_eq_true rfl, Nat.le_of_ble_eq_true rfl⟩ (fun r9 u9 H locs h_29 hP hD hS => ?_)
      have hP : va_P D vwCl (wM q F (nI n) R 1 cI cZ) H := hP
      have hD : va_D A (wM q F (nI n) R 1 cI cZ) := hD
      obtain rfl : r9 = 0 := h_29.trans (by decide)
      refine lv_if_ne (x := 0) (tgt := 37) hx hb dX1_setDistance_32 (by decide) (fun k => absurd (by decide) k) (fun _ => ?_)
      refine lv_iconst (v := 0) hx hb dX1_setDistance_35 (by decide) ?_
      exact W.iret hx hb hr (fun t ht hW => ⟨⟨_, (1, F), rfl, (by show (1, F).1 = thSD c1 c2 d1 ∧ (thSD c1 c2 d1 = 0 → 0 = F 0 (c1 * 10 + c2).toNatClampNeg ∧ (1, F).2 = fSD F c1 c2 d1) ∧ (¬ thSD c1 c2 d1 = 0 → (1, F).2 = F); have e9 : thSD c1 c2 d1 = 1 := (by simp [thSD, c_5, c_12]); exact ⟨e9.symm, fun h9 => absurd (e9.symm.trans h9) (by decide), fun _ => rfl⟩), by rw [ht]; exact hP, hD⟩, hS.F ht⟩) hS.2.2 dX1_setDistance_36
    · have c_12 := bi_n0.mp c_12
      refine lv_iload_n hx hb dX1_setDistance_15 rfl (lv_at hl 3 rfl) ?_
      refine lv_iconst (v := 0) hx hb dX1_setDistance_16 (by decide) ?_
      refine lv_iconst (v := 4) hx hb dX1_setDistance_17 (by decide) ?_
      refine ro_S (As := [.int d1, .int 0, .int 4]) (rest := [.ref (q 9)]) ⟨hx, hb, hml, hown, hts⟩ (c_X1_isIn l d1 0 4) (va_cwS 3 hts gX1_setDistance_X1_isIn rfl rfl rfl (by decide +kernel) ⟨Nat.le_of_ble_eq_true rfl, Nat.le_of_ble_eq_true rfl⟩) hP hS rfl hl.1 rfl (Nat.le_of_ble_eq_true rfl) dX1_setDistance_18 ⟨Nat.le_of_ble_eq_true rfl, Nat.le_of_ble_eq_true rfl⟩ (fun r H locs hr9 hP hS => ?_)
      subst hr9
      refine lv_if_eq (x := (bi (mIn d1 0 4))) (tgt := 28) hx hb dX1_setDistance_21 (by decide) (fun c_21 => ?_) (fun c_21 => ?_)
      · have c_21 := bi_e0.mp c_21
        refine lv_iconst (v := 1) hx hb dX1_setDistance_28 (by decide) ?_
        refine wr_V (As := [.int 1]) (rest := []) (wr := []) ⟨hx, hb, hml, hown, hts⟩ (c_X1_goes l D q F n R th cI cZ _ 1) (cwV 1 hts gX1_setDistance_X1_goes rfl rfl rfl (by decide +kernel) ⟨Nat.le_of_ble_eq_true rfl, Nat.le_of_ble_eq_true rfl⟩) hK hP hD hA [0, 1, 2, 3, 4, 5, 6, 7, 8, 9] [] rfl rfl (by decide) rfl (by decide) (by decide) (va_recv hK hP (ci := 1) (q0 := 0) rfl rfl) hS rfl hl.1 rfl (Nat.le_of_ble_eq_true rfl) dX1_setDistance_29 ⟨Nat.le_of_ble_eq_true rfl, Nat.le_of_ble_eq_true rfl⟩ (fun r9 u9 H locs h_29 hP hD hS => ?_)
        have hP : va_P D vwCl (wM q F (nI n) R 1 cI cZ) H := hP
        have hD : va_D A (wM q F (nI n) R 1 cI cZ) := hD
        obtain rfl : r9 = 0 := h_29.trans (by decide)
        refine lv_if_ne (x := 0) (tgt := 37) hx hb dX1_setDistance_32 (by decide) (fun k => absurd (by decide) k) (fun _ => ?_)
        refine lv_iconst (v := 0) hx hb dX1_setDistance_35 (by decide) ?_
        exact W.iret hx hb hr (fun t ht hW => ⟨⟨_, (1, F), rfl, (by show (1, F).1 = thSD c1 c2 d1 ∧ (thSD c1 c2 d1 = 0 → 0 = F 0 (c1 * 10 + c2).toNatClampNeg ∧ (1, F).2 = fSD F c1 c2 d1) ∧ (¬ thSD c1 c2 d1 = 0 → (1, F).2 = F); have e9 : thSD c1 c2 d1 = 1 := (by simp [thSD, c_5, c_12, c_21]); exact ⟨e9.symm, fun h9 => absurd (e9.symm.trans h9) (by decide), fun _ => rfl⟩), by rw [ht]; exact hP, hD⟩, hS.F ht⟩) hS.2.2 dX1_setDistance_36
      · have c_21 := bi_n0.mp c_21
        refine lv_iconst (v := 0) hx hb dX1_setDistance_24 (by decide) ?_
        refine lv_goto (tgt := 29) hx hb dX1_setDistance_25 (by decide) ?_
        refine wr_V (As := [.int 0]) (rest := []) (wr := []) ⟨hx, hb, hml, hown, hts⟩ (c_X1_goes l D q F n R th cI cZ _ 0) (cwV 1 hts gX1_setDistance_X1_goes rfl rfl rfl (by decide +kernel) ⟨Nat.le_of_ble_eq_true rfl, Nat.le_of_ble_eq_true rfl⟩) hK hP hD hA [0, 1, 2, 3, 4, 5, 6, 7, 8, 9] [] rfl rfl (by decide) rfl (by decide) (by decide) (va_recv hK hP (ci := 1) (q0 := 0) rfl rfl) hS rfl hl.1 rfl (Nat.le_of_ble_eq_true rfl) dX1_setDistance_29 ⟨Nat.le_of_ble_eq_true rfl, Nat.le_of_ble_eq_true rfl⟩ (fun r9 u9 H locs h_29 hP hD hS => ?_)
        have hP : va_P D vwCl (wM q F (nI n) R 0 cI cZ) H := hP
        have hD : va_D A (wM q F (nI n) R 0 cI cZ) := hD
        obtain rfl : r9 = 1 := h_29.trans (by decide)
        refine lv_if_ne (x := 1) (tgt := 37) hx hb dX1_setDistance_32 (by decide) (fun _ => ?_) (fun k => absurd k (by decide))
        obtain ⟨i1, hi1, ea1, eb1⟩ := tab_ix (cl_okC c_5) (cl_okC c_12) (cl_ne c_5) (cl_ne c_12)
        obtain ⟨i2, hi2, ea2, eb2⟩ := tab_ix (cl_okC c_12) (cl_okC c_5) (cl_ne c_12) (cl_ne c_5)
        refine lv_aload_n hx hb dX1_setDistance_37 rfl (lv_at hl 0 rfl) ?_
        refine va_get (D := D) (ci := 1) (v := .ref (q 0)) hx hb hts hin hown hK hP 0 rfl rfl 0 (by decide) f7 (fun _ h9 => h9) rfl dX1_setDistance_38 ?_
        refine lv_bipush (v := 10) hx hb dX1_setDistance_41 (by decide) ?_
        refine lv_iload_n hx hb dX1_setDistance_43 rfl (lv_at hl 1 rfl) ?_
        refine lv_imul hx hb (x := 10) (y := c1) dX1_setDistance_44 ?_
        refine lv_iload_n hx hb dX1_setDistance_45 rfl (lv_at hl 2 rfl) ?_
        refine lv_iadd hx hb (x := (10 * c1)) (y := c2) dX1_setDistance_46 ?_
        refine W.eq (g2 := F0 m9 47 ls (.int (nI i1) :: [.ref (q 0)])) (congrArg (fun z => F0 m9 47 ls (Value.int z :: [.ref (q 0)])) eb1) ?_
        refine xiald hx hb hK hP 1 0 rfl rfl (g := i1) (hi1) (by decide) dX1_setDistance_47 ?_
        refine lv_istore (lv' := [(4, .int (F 0 i1)), (0, .ref (q 9)), (1, .int c1), (2, .int c2), (3, .int d1)]) hx hb dX1_setDistance_48 hl (by decide) rfl (fun ls hl => ?_)
        refine lv_aload_n hx hb dX1_setDistance_50 rfl (lv_at hl 1 rfl) ?_
        refine va_get (D := D) (ci := 1) (v := .ref (q 0)) hx hb hts hin hown hK hP 0 rfl rfl 0 (by decide) f7 (fun _ h9 => h9) rfl dX1_setDistance_51 ?_
        refine lv_bipush (v := 10) hx hb dX1_setDistance_54 (by decide) ?_
        refine lv_iload_n hx hb dX1_setDistance_56 rfl (lv_at hl 2 rfl) ?_
        refine lv_imul hx hb (x := 10) (y := c1) dX1_setDistance_57 ?_
        refine lv_iload_n hx hb dX1_setDistance_58 rfl (lv_at hl 3 rfl) ?_
        refine lv_iadd hx hb (x := (10 * c1)) (y := c2) dX1_setDistance_59 ?_
        refine W.eq (g2 := F0 m9 60 ls (.int (nI i1) :: [.ref (q 0)])) (congrArg (fun z => F0 m9 60 ls (Value.int z :: [.ref (q 0)])) eb1) ?_
        refine lv_iload_n hx hb dX1_setDistance_60 rfl (lv_at hl 4 rfl) ?_
        refine xiast hx hb hK hP hD hS 1 0 rfl rfl (g := i1) (x := d1) (hi1) (by decide) dX1_setDistance_61 (fun H locs hP hD hS => ?_)
        have hP : va_P D vwCl (wM q (uF F 0 (upd (F 0) i1 d1)) (nI n) R 0 cI cZ) H := hP
        have hD : va_D A (wM q (uF F 0 (upd (F 0) i1 d1)) (nI n) R 0 cI cZ) := hD
        refine lv_aload_n hx hb dX1_setDistance_62 rfl (lv_at hl 1 rfl) ?_
        refine va_get (D := D) (ci := 1) (v := .ref (q 0)) hx hb hts hin hown hK hP 0 rfl rfl 0 (by decide) f7 (fun _ h9 => h9) rfl dX1_setDistance_63 ?_
        refine lv_bipush (v := 10) hx hb dX1_setDistance_66 (by decide) ?_
        refine lv_iload_n hx hb dX1_setDistance_68 rfl (lv_at hl 3 rfl) ?_
        refine lv_imul hx hb (x := 10) (y := c2) dX1_setDistance_69 ?_
        refine lv_iload_n hx hb dX1_setDistance_70 rfl (lv_at hl 2 rfl) ?_
        refine lv_iadd hx hb (x := (10 * c2)) (y := c1) dX1_setDistance_71 ?_
        refine W.eq (g2 := F0 m9 72 ls (.int (nI i2) :: [.ref (q 0)])) (congrArg (fun z => F0 m9 72 ls (Value.int z :: [.ref (q 0)])) eb2) ?_
        refine lv_iload_n hx hb dX1_setDistance_72 rfl (lv_at hl 4 rfl) ?_
        refine xiast hx hb hK hP hD hS 1 0 rfl rfl (g := i2) (x := d1) (hi2) (by decide) dX1_setDistance_73 (fun H locs hP hD hS => ?_)
        have hP : va_P D vwCl (wM q (uF (uF F 0 (upd (F 0) i1 d1)) 0 (upd ((uF F 0 (upd (F 0) i1 d1)) 0) i2 d1)) (nI n) R 0 cI cZ) H := hP
        have hD : va_D A (wM q (uF (uF F 0 (upd (F 0) i1 d1)) 0 (upd ((uF F 0 (upd (F 0) i1 d1)) 0) i2 d1)) (nI n) R 0 cI cZ) := hD
        refine lv_iload hx hb dX1_setDistance_74 (lv_at hl 0 rfl) ?_
        exact W.iret hx hb hr (fun t ht hW => ⟨⟨_, (0, (uF (uF F 0 (upd (F 0) i1 d1)) 0 (upd ((uF F 0 (upd (F 0) i1 d1)) 0) i2 d1))), rfl, (by show (0, (uF (uF F 0 (upd (F 0) i1 d1)) 0 (upd ((uF F 0 (upd (F 0) i1 d1)) 0) i2 d1))).1 = thSD c1 c2 d1 ∧ (thSD c1 c2 d1 = 0 → (F 0 i1) = F 0 (c1 * 10 + c2).toNatClampNeg ∧ (0, (uF (uF F 0 (upd (F 0) i1 d1)) 0 (upd ((uF F 0 (upd (F 0) i1 d1)) 0) i2 d1))).2 = fSD F c1 c2 d1) ∧ (¬ thSD c1 c2 d1 = 0 → (0, (uF (uF F 0 (upd (F 0) i1 d1)) 0 (upd ((uF F 0 (upd (F 0) i1 d1)) 0) i2 d1))).2 = F); have e9 : thSD c1 c2 d1 = 0 := (by simp [thSD, c_5, c_12, c_21]); exact ⟨e9.symm, fun _ => ⟨by rw [ea1, nI_clamp (n := i1) (by omega)], by show _ = fSD F c1 c2 d1; unfold fSD; rw [ea1, ea2, nI_clamp (n := i1) (by omega), nI_clamp (n := i2) (by omega)]⟩, fun h9 => absurd e9 h9⟩), by rw [ht]; exact hP, hD⟩, hS.F ht⟩) hS.2.2 dX1_setDistance_76
set_option maxHeartbeats 4000000 in
set_option maxRecDepth 100000 in
theorem c_X1_setQuantities (l : Launch) (D : va_G) (q : Nat → Nat) (F : Nat → Nat → Int32) (n : Nat) (R : Nat → Int32) (th : Int32) (cI cZ : ClassId) (sz : Nat) (c1 : Int32) (l1 : Int32) (x1 : Int32) (hw : WF F n) : Met l yX1_setQuantities wsX1_setQuantities ({ frames := 2, cells := 0, slots := 0, locals := 42 }) (va_Pc [.ref (q 9), .int c1, .int l1, .int x1] (wS D (wM q F (nI n) R th cI cZ) (tIZ cI cZ) sz)) (va_Qv (fun (u : Int32 × (Nat → Nat → Int32)) => u.1 = thSQ c1 l1 x1 ∧ (thSQ c1 l1 x1 = 0 → u.2 = fSQ F c1 l1 x1) ∧ (¬ thSQ c1 l1 x1 = 0 → u.2 = F)) (wB D (va_A (wM q F (nI n) R th cI cZ) sz) (fun (u : Int32 × (Nat → Nat → Int32)) => wM q u.2 (nI n) R u.1 cI cZ)) (va_A (wM q F (nI n) R th cI cZ) sz)) 0 0 (va_A (wM q F (nI n) R th cI cZ) sz) := by
  refine wrv_of (own := RX1) (cc := cX1_setQuantities) (maxL := 4) (ret := none) (by decide) rfl rfl (Nat.le_of_ble_eq_true rfl) ?_
  intro p9 e9 s m9 a9 below meth c9 ls A hx hb hr hml hlocks hown hts hP hK hD hA hl hnm
  have hin : ∀ w ∈ wsX10, w ∈ wsX1_setQuantities := by decide +kernel
  have f13 := hts (.fieldLink RX1 13 "DangerousGoodsModel" "limits" "[I") (by decide +kernel)
  have f16 := hts (.fieldLink RX1 16 "DangerousGoodsModel" "exceptions" "[I") (by decide +kernel)
  have hS : va_S A s.heap s.heap [] := va_S.rf
  have hl : lv_has ls 4 [(0, .ref (q 9)), (1, .int c1), (2, .int l1), (3, .int x1)] := hl
  refine lv_aload_n hx hb dX1_setQuantities_0 rfl (lv_at hl 0 rfl) ?_
  refine lv_iload_n hx hb dX1_setQuantities_1 rfl (lv_at hl 1 rfl) ?_
  refine ro_S (As := [.int c1]) (rest := [.ref (q 9)]) ⟨hx, hb, hml, hown, hts⟩ (c_X1_isClass l c1) (va_cwS 1 hts gX1_setQuantities_X1_isClass rfl rfl rfl (by decide +kernel) ⟨Nat.le_of_ble_eq_true rfl, Nat.le_of_ble_eq_true rfl⟩) hP hS rfl hl.1 rfl (Nat.le_of_ble_eq_true rfl) dX1_setQuantities_2 ⟨Nat.le_of_ble_eq_true rfl, Nat.le_of_ble_eq_true rfl⟩ (fun r H locs hr9 hP hS => ?_)
  subst hr9
  refine lv_if_eq (x := (bi (mIn c1 1 9))) (tgt := 32) hx hb dX1_setQuantities_5 (by decide) (fun c_5 => ?_) (fun c_5 => ?_)
  · have c_5 := bi_e0.mp c_5
    refine lv_iconst (v := 1) hx hb dX1_setQuantities_32 (by decide) ?_
    refine wr_V (As := [.int 1]) (rest := []) (wr := []) ⟨hx, hb, hml, hown, hts⟩ (c_X1_goes l D q F n R th cI cZ _ 1) (cwV 1 hts gX1_setQuantities_X1_goes rfl rfl rfl (by decide +kernel) ⟨Nat.le_of_ble_eq_true rfl, Nat.le_of_ble_eq_true rfl⟩) hK hP hD hA [0, 1, 2, 3, 4, 5, 6, 7, 8, 9] [] rfl rfl (by decide) rfl (by decide) (by decide) (va_recv hK hP (ci := 1) (q0 := 0) rfl rfl) hS rfl hl.1 rfl (Nat.le_of_ble_eq_true rfl) dX1_setQuantities_33 ⟨Nat.le_of_ble_eq_true rfl, Nat.le_of_ble_eq_true rfl⟩ (fun r9 u9 H locs h_33 hP hD hS => ?_)
    have hP : va_P D vwCl (wM q F (nI n) R 1 cI cZ) H := hP
    have hD : va_D A (wM q F (nI n) R 1 cI cZ) := hD
    obtain rfl : r9 = 0 := h_33.trans (by decide)
    refine lv_if_eq (x := 0) (tgt := 53) hx hb dX1_setQuantities_36 (by decide) (fun _ => ?_) (fun k => absurd (by decide) k)
    exact W.vret hx hb hr (fun t ht hW => ⟨⟨(1, F), rfl, (by show (1, F).1 = thSQ c1 l1 x1 ∧ (thSQ c1 l1 x1 = 0 → (1, F).2 = fSQ F c1 l1 x1) ∧ (¬ thSQ c1 l1 x1 = 0 → (1, F).2 = F); have e9 : thSQ c1 l1 x1 = 1 := (by simp [thSQ, c_5]); exact ⟨e9.symm, fun h9 => absurd (e9.symm.trans h9) (by decide), fun _ => rfl⟩), by rw [ht]; exact hP, hD⟩, hS.F ht⟩) hS.2.2 dX1_setQuantities_53
  · have c_5 := bi_n0.mp c_5
    refine lv_iload_n hx hb dX1_setQuantities_8 rfl (lv_at hl 2 rfl) ?_
    refine lv_iconst (v := 0) hx hb dX1_setQuantities_9 (by decide) ?_
    refine lv_sipush (v := 10000) hx hb dX1_setQuantities_10 (by decide) ?_
    refine ro_S (As := [.int l1, .int 0, .int 10000]) (rest := [.ref (q 9)]) ⟨hx, hb, hml, hown, hts⟩ (c_X1_isIn l l1 0 10000) (va_cwS 3 hts gX1_setQuantities_X1_isIn rfl rfl rfl (by decide +kernel) ⟨Nat.le_of_ble_eq_true rfl, Nat.le_of_ble_eq_true rfl⟩) hP hS rfl hl.1 rfl (Nat.le_of_ble_eq_true rfl) dX1_setQuantities_13 ⟨Nat.le_of_ble_eq_true rfl, Nat.le_of_ble_eq_true rfl⟩ (fun r H locs hr9 hP hS => ?_)
    subst hr9
    refine lv_if_eq (x := (bi (mIn l1 0 10000))) (tgt := 32) hx hb dX1_setQuantities_16 (by decide) (fun c_16 => ?_) (fun c_16 => ?_)
    · have c_16 := bi_e0.mp c_16
      refine lv_iconst (v := 1) hx hb dX1_setQuantities_32 (by decide) ?_
      refine wr_V (As := [.int 1]) (rest := []) (wr := []) ⟨hx, hb, hml, hown, hts⟩ (c_X1_goes l D q F n R th cI cZ _ 1) (cwV 1 hts gX1_setQuantities_X1_goes rfl rfl rfl (by decide +kernel) ⟨Nat.le_of_ble_eq_true rfl, Nat.le_of_ble_eq_true rfl⟩) hK hP hD hA [0, 1, 2, 3, 4, 5, 6, 7, 8, 9] [] rfl rfl (by decide) rfl (by decide) (by decide) (va_recv hK hP (ci := 1) (q0 := 0) rfl rfl) hS rfl hl.1 rfl (Nat.le_of_ble_eq_true rfl) dX1_setQuantities_33 ⟨Nat.le_of_ble_eq_true rfl, Nat.le_of_ble_eq_true rfl⟩ (fun r9 u9 H locs h_33 hP hD hS => ?_)
      have hP : va_P D vwCl (wM q F (nI n) R 1 cI cZ) H := hP
      have hD : va_D A (wM q F (nI n) R 1 cI cZ) := hD
      obtain rfl : r9 = 0 := h_33.trans (by decide)
      refine lv_if_eq (x := 0) (tgt := 53) hx hb dX1_setQuantities_36 (by decide) (fun _ => ?_) (fun k => absurd (by decide) k)
      exact W.vret hx hb hr (fun t ht hW => ⟨⟨(1, F), rfl, (by show (1, F).1 = thSQ c1 l1 x1 ∧ (thSQ c1 l1 x1 = 0 → (1, F).2 = fSQ F c1 l1 x1) ∧ (¬ thSQ c1 l1 x1 = 0 → (1, F).2 = F); have e9 : thSQ c1 l1 x1 = 1 := (by simp [thSQ, c_5, c_16]); exact ⟨e9.symm, fun h9 => absurd (e9.symm.trans h9) (by decide), fun _ => rfl⟩), by rw [ht]; exact hP, hD⟩, hS.F ht⟩) hS.2.2 dX1_setQuantities_53
    · have c_16 := bi_n0.mp c_16
      refine lv_iload_n hx hb dX1_setQuantities_19 rfl (lv_at hl 3 rfl) ?_
      refine lv_iconst (v := 0) hx hb dX1_setQuantities_20 (by decide) ?_
      refine lv_iload_n hx hb dX1_setQuantities_21 rfl (lv_at hl 2 rfl) ?_
      refine ro_S (As := [.int x1, .int 0, .int l1]) (rest := [.ref (q 9)]) ⟨hx, hb, hml, hown, hts⟩ (c_X1_isIn l x1 0 l1) (va_cwS 3 hts gX1_setQuantities_X1_isIn rfl rfl rfl (by decide +kernel) ⟨Nat.le_of_ble_eq_true rfl, Nat.le_of_ble_eq_true rfl⟩) hP hS rfl hl.1 rfl (Nat.le_of_ble_eq_true rfl) dX1_setQuantities_22 ⟨Nat.le_of_ble_eq_true rfl, Nat.le_of_ble_eq_true rfl⟩ (fun r H locs hr9 hP hS => ?_)
      subst hr9
      refine lv_if_eq (x := (bi (mIn x1 0 l1))) (tgt := 32) hx hb dX1_setQuantities_25 (by decide) (fun c_25 => ?_) (fun c_25 => ?_)
      · have c_25 := bi_e0.mp c_25
        refine lv_iconst (v := 1) hx hb dX1_setQuantities_32 (by decide) ?_
        refine wr_V (As := [.int 1]) (rest := []) (wr := []) ⟨hx, hb, hml, hown, hts⟩ (c_X1_goes l D q F n R th cI cZ _ 1) (cwV 1 hts gX1_setQuantities_X1_goes rfl rfl rfl (by decide +kernel) ⟨Nat.le_of_ble_eq_true rfl, Nat.le_of_ble_eq_true rfl⟩) hK hP hD hA [0, 1, 2, 3, 4, 5, 6, 7, 8, 9] [] rfl rfl (by decide) rfl (by decide) (by decide) (va_recv hK hP (ci := 1) (q0 := 0) rfl rfl) hS rfl hl.1 rfl (Nat.le_of_ble_eq_true rfl) dX1_setQuantities_33 ⟨Nat.le_of_ble_eq_true rfl, Nat.le_of_ble_eq_true rfl⟩ (fun r9 u9 H locs h_33 hP hD hS => ?_)
        have hP : va_P D vwCl (wM q F (nI n) R 1 cI cZ) H := hP
        have hD : va_D A (wM q F (nI n) R 1 cI cZ) := hD
        obtain rfl : r9 = 0 := h_33.trans (by decide)
        refine lv_if_eq (x := 0) (tgt := 53) hx hb dX1_setQuantities_36 (by decide) (fun _ => ?_) (fun k => absurd (by decide) k)
        exact W.vret hx hb hr (fun t ht hW => ⟨⟨(1, F), rfl, (by show (1, F).1 = thSQ c1 l1 x1 ∧ (thSQ c1 l1 x1 = 0 → (1, F).2 = fSQ F c1 l1 x1) ∧ (¬ thSQ c1 l1 x1 = 0 → (1, F).2 = F); have e9 : thSQ c1 l1 x1 = 1 := (by simp [thSQ, c_5, c_16, c_25]); exact ⟨e9.symm, fun h9 => absurd (e9.symm.trans h9) (by decide), fun _ => rfl⟩), by rw [ht]; exact hP, hD⟩, hS.F ht⟩) hS.2.2 dX1_setQuantities_53
      · have c_25 := bi_n0.mp c_25
        refine lv_iconst (v := 0) hx hb dX1_setQuantities_28 (by decide) ?_
        refine lv_goto (tgt := 33) hx hb dX1_setQuantities_29 (by decide) ?_
        refine wr_V (As := [.int 0]) (rest := []) (wr := []) ⟨hx, hb, hml, hown, hts⟩ (c_X1_goes l D q F n R th cI cZ _ 0) (cwV 1 hts gX1_setQuantities_X1_goes rfl rfl rfl (by decide +kernel) ⟨Nat.le_of_ble_eq_true rfl, Nat.le_of_ble_eq_true rfl⟩) hK hP hD hA [0, 1, 2, 3, 4, 5, 6, 7, 8, 9] [] rfl rfl (by decide) rfl (by decide) (by decide) (va_recv hK hP (ci := 1) (q0 := 0) rfl rfl) hS rfl hl.1 rfl (Nat.le_of_ble_eq_true rfl) dX1_setQuantities_33 ⟨Nat.le_of_ble_eq_true rfl, Nat.le_of_ble_eq_true rfl⟩ (fun r9 u9 H locs h_33 hP hD hS => ?_)
        have hP : va_P D vwCl (wM q F (nI n) R 0 cI cZ) H := hP
        have hD : va_D A (wM q F (nI n) R 0 cI cZ) := hD
        obtain rfl : r9 = 1 := h_33.trans (by decide)
        refine lv_if_eq (x := 1) (tgt := 53) hx hb dX1_setQuantities_36 (by decide) (fun k => absurd k (by decide)) (fun _ => ?_)
        refine lv_aload_n hx hb dX1_setQuantities_39 rfl (lv_at hl 0 rfl) ?_
        refine va_get (D := D) (ci := 1) (v := .ref (q 1)) hx hb hts hin hown hK hP 0 rfl rfl 1 (by decide) f13 (fun _ h9 => h9) rfl dX1_setQuantities_40 ?_
        refine lv_iload_n hx hb dX1_setQuantities_43 rfl (lv_at hl 1 rfl) ?_
        refine lv_iload_n hx hb dX1_setQuantities_44 rfl (lv_at hl 2 rfl) ?_
        refine va_iast hx hb hK hP hD hS 2 0 rfl rfl (i := c1) (x := l1) ((cl_okC c_5).in (cl_ne c_5)) dX1_setQuantities_45 (fun H locs hP hD hS => ?_)
        have hP : va_P D vwCl (wM q (uF F 1 (upd (F 1) c1.toNatClampNeg l1)) (nI n) R 0 cI cZ) H := hP
        have hD : va_D A (wM q (uF F 1 (upd (F 1) c1.toNatClampNeg l1)) (nI n) R 0 cI cZ) := hD
        refine lv_aload_n hx hb dX1_setQuantities_46 rfl (lv_at hl 0 rfl) ?_
        refine va_get (D := D) (ci := 1) (v := .ref (q 2)) hx hb hts hin hown hK hP 0 rfl rfl 2 (by decide) f16 (fun _ h9 => h9) rfl dX1_setQuantities_47 ?_
        refine lv_iload_n hx hb dX1_setQuantities_50 rfl (lv_at hl 1 rfl) ?_
        refine lv_iload_n hx hb dX1_setQuantities_51 rfl (lv_at hl 3 rfl) ?_
        refine va_iast hx hb hK hP hD hS 3 0 rfl rfl (i := c1) (x := x1) ((cl_okC c_5).in (cl_ne c_5)) dX1_setQuantities_52 (fun H locs hP hD hS => ?_)
        have hP : va_P D vwCl (wM q (uF (uF F 1 (upd (F 1) c1.toNatClampNeg l1)) 2 (upd ((uF F 1 (upd (F 1) c1.toNatClampNeg l1)) 2) c1.toNatClampNeg x1)) (nI n) R 0 cI cZ) H := hP
        have hD : va_D A (wM q (uF (uF F 1 (upd (F 1) c1.toNatClampNeg l1)) 2 (upd ((uF F 1 (upd (F 1) c1.toNatClampNeg l1)) 2) c1.toNatClampNeg x1)) (nI n) R 0 cI cZ) := hD
        exact W.vret hx hb hr (fun t ht hW => ⟨⟨(0, (uF (uF F 1 (upd (F 1) c1.toNatClampNeg l1)) 2 (upd ((uF F 1 (upd (F 1) c1.toNatClampNeg l1)) 2) c1.toNatClampNeg x1))), rfl, (by show (0, (uF (uF F 1 (upd (F 1) c1.toNatClampNeg l1)) 2 (upd ((uF F 1 (upd (F 1) c1.toNatClampNeg l1)) 2) c1.toNatClampNeg x1))).1 = thSQ c1 l1 x1 ∧ (thSQ c1 l1 x1 = 0 → (0, (uF (uF F 1 (upd (F 1) c1.toNatClampNeg l1)) 2 (upd ((uF F 1 (upd (F 1) c1.toNatClampNeg l1)) 2) c1.toNatClampNeg x1))).2 = fSQ F c1 l1 x1) ∧ (¬ thSQ c1 l1 x1 = 0 → (0, (uF (uF F 1 (upd (F 1) c1.toNatClampNeg l1)) 2 (upd ((uF F 1 (upd (F 1) c1.toNatClampNeg l1)) 2) c1.toNatClampNeg x1))).2 = F); have e9 : thSQ c1 l1 x1 = 0 := (by simp [thSQ, c_5, c_16, c_25]); exact ⟨e9.symm, fun _ => rfl, fun h9 => absurd e9 h9⟩), by rw [ht]; exact hP, hD⟩, hS.F ht⟩) hS.2.2 dX1_setQuantities_53
set_option maxHeartbeats 4000000 in
set_option maxRecDepth 100000 in
theorem c_X1_bar (l : Launch) (D : va_G) (q : Nat → Nat) (F : Nat → Nat → Int32) (n : Nat) (R : Nat → Int32) (th : Int32) (cI cZ : ClassId) (sz : Nat) (c1 : Int32) (d1 : Int32) (b1 : Bool) (hw : WF F n) : Met l yX1_bar wsX1_bar ({ frames := 2, cells := 0, slots := 0, locals := 42 }) (va_Pc [.ref (q 9), .int c1, .int d1, .int (bi b1)] (wS D (wM q F (nI n) R th cI cZ) (tIZ cI cZ) sz)) (va_Qi (fun (r : Int32) (u : Int32 × (Nat → Nat → Int32)) => u.1 = thBar c1 d1 ∧ (thBar c1 d1 = 0 → r = F 3 (c1 * 2 + d1).toNatClampNeg ∧ u.2 = fBar F c1 d1 b1) ∧ (¬ thBar c1 d1 = 0 → u.2 = F)) (wB D (va_A (wM q F (nI n) R th cI cZ) sz) (fun (u : Int32 × (Nat → Nat → Int32)) => wM q u.2 (nI n) R u.1 cI cZ)) (va_A (wM q F (nI n) R th cI cZ) sz)) 0 0 (va_A (wM q F (nI n) R th cI cZ) sz) := by
  refine wr_of (own := RX1) (cc := cX1_bar) (maxL := 5) (ret := (some .boolean)) (by decide) rfl rfl (Nat.le_of_ble_eq_true rfl) ?_
  intro p9 e9 s m9 a9 below meth c9 ls A hx hb hr hml hlocks hown hts hP hK hD hA hl
  have hin : ∀ w ∈ wsX10, w ∈ wsX1_bar := by decide +kernel
  have f19 := hts (.fieldLink RX1 19 "DangerousGoodsModel" "isBarred" "[Z") (by decide +kernel)
  have hS : va_S A s.heap s.heap [] := va_S.rf
  have hl : lv_has ls 5 [(0, .ref (q 9)), (1, .int c1), (2, .int d1), (3, .int (bi b1))] := hl
  refine lv_aload_n hx hb dX1_bar_0 rfl (lv_at hl 0 rfl) ?_
  refine lv_iload_n hx hb dX1_bar_1 rfl (lv_at hl 1 rfl) ?_
  refine ro_S (As := [.int c1]) (rest := [.ref (q 9)]) ⟨hx, hb, hml, hown, hts⟩ (c_X1_isClass l c1) (va_cwS 1 hts gX1_bar_X1_isClass rfl rfl rfl (by decide +kernel) ⟨Nat.le_of_ble_eq_true rfl, Nat.le_of_ble_eq_true rfl⟩) hP hS rfl hl.1 rfl (Nat.le_of_ble_eq_true rfl) dX1_bar_2 ⟨Nat.le_of_ble_eq_true rfl, Nat.le_of_ble_eq_true rfl⟩ (fun r H locs hr9 hP hS => ?_)
  subst hr9
  refine lv_if_eq (x := (bi (mIn c1 1 9))) (tgt := 21) hx hb dX1_bar_5 (by decide) (fun c_5 => ?_) (fun c_5 => ?_)
  · have c_5 := bi_e0.mp c_5
    refine lv_iconst (v := 1) hx hb dX1_bar_21 (by decide) ?_
    refine wr_V (As := [.int 1]) (rest := []) (wr := []) ⟨hx, hb, hml, hown, hts⟩ (c_X1_goes l D q F n R th cI cZ _ 1) (cwV 1 hts gX1_bar_X1_goes rfl rfl rfl (by decide +kernel) ⟨Nat.le_of_ble_eq_true rfl, Nat.le_of_ble_eq_true rfl⟩) hK hP hD hA [0, 1, 2, 3, 4, 5, 6, 7, 8, 9] [] rfl rfl (by decide) rfl (by decide) (by decide) (va_recv hK hP (ci := 1) (q0 := 0) rfl rfl) hS rfl hl.1 rfl (Nat.le_of_ble_eq_true rfl) dX1_bar_22 ⟨Nat.le_of_ble_eq_true rfl, Nat.le_of_ble_eq_true rfl⟩ (fun r9 u9 H locs h_22 hP hD hS => ?_)
    have hP : va_P D vwCl (wM q F (nI n) R 1 cI cZ) H := hP
    have hD : va_D A (wM q F (nI n) R 1 cI cZ) := hD
    obtain rfl : r9 = 0 := h_22.trans (by decide)
    refine lv_if_ne (x := 0) (tgt := 30) hx hb dX1_bar_25 (by decide) (fun k => absurd (by decide) k) (fun _ => ?_)
    refine lv_iconst (v := 0) hx hb dX1_bar_28 (by decide) ?_
    exact W.zret hx hb hr zn0 (fun t ht hW => ⟨⟨_, (1, F), rfl, (by show (1, F).1 = thBar c1 d1 ∧ (thBar c1 d1 = 0 → 0 = F 3 (c1 * 2 + d1).toNatClampNeg ∧ (1, F).2 = fBar F c1 d1 b1) ∧ (¬ thBar c1 d1 = 0 → (1, F).2 = F); have e9 : thBar c1 d1 = 1 := (by simp [thBar, c_5]); exact ⟨e9.symm, fun h9 => absurd (e9.symm.trans h9) (by decide), fun _ => rfl⟩), by rw [ht]; exact hP, hD⟩, hS.F ht⟩) hS.2.2 dX1_bar_29
  · have c_5 := bi_n0.mp c_5
    refine lv_iload_n hx hb dX1_bar_8 rfl (lv_at hl 2 rfl) ?_
    refine lv_iconst (v := 0) hx hb dX1_bar_9 (by decide) ?_
    refine lv_iconst (v := 1) hx hb dX1_bar_10 (by decide) ?_
    refine ro_S (As := [.int d1, .int 0, .int 1]) (rest := [.ref (q 9)]) ⟨hx, hb, hml, hown, hts⟩ (c_X1_isIn l d1 0 1) (va_cwS 3 hts gX1_bar_X1_isIn rfl rfl rfl (by decide +kernel) ⟨Nat.le_of_ble_eq_true rfl, Nat.le_of_ble_eq_true rfl⟩) hP hS rfl hl.1 rfl (Nat.le_of_ble_eq_true rfl) dX1_bar_11 ⟨Nat.le_of_ble_eq_true rfl, Nat.le_of_ble_eq_true rfl⟩ (fun r H locs hr9 hP hS => ?_)
    subst hr9
    refine lv_if_eq (x := (bi (mIn d1 0 1))) (tgt := 21) hx hb dX1_bar_14 (by decide) (fun c_14 => ?_) (fun c_14 => ?_)
    · have c_14 := bi_e0.mp c_14
      refine lv_iconst (v := 1) hx hb dX1_bar_21 (by decide) ?_
      refine wr_V (As := [.int 1]) (rest := []) (wr := []) ⟨hx, hb, hml, hown, hts⟩ (c_X1_goes l D q F n R th cI cZ _ 1) (cwV 1 hts gX1_bar_X1_goes rfl rfl rfl (by decide +kernel) ⟨Nat.le_of_ble_eq_true rfl, Nat.le_of_ble_eq_true rfl⟩) hK hP hD hA [0, 1, 2, 3, 4, 5, 6, 7, 8, 9] [] rfl rfl (by decide) rfl (by decide) (by decide) (va_recv hK hP (ci := 1) (q0 := 0) rfl rfl) hS rfl hl.1 rfl (Nat.le_of_ble_eq_true rfl) dX1_bar_22 ⟨Nat.le_of_ble_eq_true rfl, Nat.le_of_ble_eq_true rfl⟩ (fun r9 u9 H locs h_22 hP hD hS => ?_)
      have hP : va_P D vwCl (wM q F (nI n) R 1 cI cZ) H := hP
      have hD : va_D A (wM q F (nI n) R 1 cI cZ) := hD
      obtain rfl : r9 = 0 := h_22.trans (by decide)
      refine lv_if_ne (x := 0) (tgt := 30) hx hb dX1_bar_25 (by decide) (fun k => absurd (by decide) k) (fun _ => ?_)
      refine lv_iconst (v := 0) hx hb dX1_bar_28 (by decide) ?_
      exact W.zret hx hb hr zn0 (fun t ht hW => ⟨⟨_, (1, F), rfl, (by show (1, F).1 = thBar c1 d1 ∧ (thBar c1 d1 = 0 → 0 = F 3 (c1 * 2 + d1).toNatClampNeg ∧ (1, F).2 = fBar F c1 d1 b1) ∧ (¬ thBar c1 d1 = 0 → (1, F).2 = F); have e9 : thBar c1 d1 = 1 := (by simp [thBar, c_5, c_14]); exact ⟨e9.symm, fun h9 => absurd (e9.symm.trans h9) (by decide), fun _ => rfl⟩), by rw [ht]; exact hP, hD⟩, hS.F ht⟩) hS.2.2 dX1_bar_29
    · have c_14 := bi_n0.mp c_14
      refine lv_iconst (v := 0) hx hb dX1_bar_17 (by decide) ?_
      refine lv_goto (tgt := 22) hx hb dX1_bar_18 (by decide) ?_
      refine wr_V (As := [.int 0]) (rest := []) (wr := []) ⟨hx, hb, hml, hown, hts⟩ (c_X1_goes l D q F n R th cI cZ _ 0) (cwV 1 hts gX1_bar_X1_goes rfl rfl rfl (by decide +kernel) ⟨Nat.le_of_ble_eq_true rfl, Nat.le_of_ble_eq_true rfl⟩) hK hP hD hA [0, 1, 2, 3, 4, 5, 6, 7, 8, 9] [] rfl rfl (by decide) rfl (by decide) (by decide) (va_recv hK hP (ci := 1) (q0 := 0) rfl rfl) hS rfl hl.1 rfl (Nat.le_of_ble_eq_true rfl) dX1_bar_22 ⟨Nat.le_of_ble_eq_true rfl, Nat.le_of_ble_eq_true rfl⟩ (fun r9 u9 H locs h_22 hP hD hS => ?_)
      have hP : va_P D vwCl (wM q F (nI n) R 0 cI cZ) H := hP
      have hD : va_D A (wM q F (nI n) R 0 cI cZ) := hD
      obtain rfl : r9 = 1 := h_22.trans (by decide)
      refine lv_if_ne (x := 1) (tgt := 30) hx hb dX1_bar_25 (by decide) (fun _ => ?_) (fun k => absurd k (by decide))
      obtain ⟨i1, hi1, ea1, eb1⟩ := bar_ix (cl_okC c_5) (cl_ne c_5) (dk_01 c_14)
      refine lv_aload_n hx hb dX1_bar_30 rfl (lv_at hl 0 rfl) ?_
      refine va_get (D := D) (ci := 1) (v := .ref (q 3)) hx hb hts hin hown hK hP 0 rfl rfl 3 (by decide) f19 (fun _ h9 => h9) rfl dX1_bar_31 ?_
      refine lv_iconst (v := 2) hx hb dX1_bar_34 (by decide) ?_
      refine lv_iload_n hx hb dX1_bar_35 rfl (lv_at hl 1 rfl) ?_
      refine lv_imul hx hb (x := 2) (y := c1) dX1_bar_36 ?_
      refine lv_iload_n hx hb dX1_bar_37 rfl (lv_at hl 2 rfl) ?_
      refine lv_iadd hx hb (x := (2 * c1)) (y := d1) dX1_bar_38 ?_
      refine W.eq (g2 := F0 m9 39 ls (.int (nI i1) :: [.ref (q 3)])) (congrArg (fun z => F0 m9 39 ls (Value.int z :: [.ref (q 3)])) eb1) ?_
      refine xzald hx hb hK hP 4 1 rfl rfl (g := i1) (hi1) (by decide) dX1_bar_39 ?_
      refine lv_istore (lv' := [(4, .int (F 3 i1)), (0, .ref (q 9)), (1, .int c1), (2, .int d1), (3, .int (bi b1))]) hx hb dX1_bar_40 hl (by decide) rfl (fun ls hl => ?_)
      refine lv_aload_n hx hb dX1_bar_42 rfl (lv_at hl 1 rfl) ?_
      refine va_get (D := D) (ci := 1) (v := .ref (q 3)) hx hb hts hin hown hK hP 0 rfl rfl 3 (by decide) f19 (fun _ h9 => h9) rfl dX1_bar_43 ?_
      refine lv_iconst (v := 2) hx hb dX1_bar_46 (by decide) ?_
      refine lv_iload_n hx hb dX1_bar_47 rfl (lv_at hl 2 rfl) ?_
      refine lv_imul hx hb (x := 2) (y := c1) dX1_bar_48 ?_
      refine lv_iload_n hx hb dX1_bar_49 rfl (lv_at hl 3 rfl) ?_
      refine lv_iadd hx hb (x := (2 * c1)) (y := d1) dX1_bar_50 ?_
      refine W.eq (g2 := F0 m9 51 ls (.int (nI i1) :: [.ref (q 3)])) (congrArg (fun z => F0 m9 51 ls (Value.int z :: [.ref (q 3)])) eb1) ?_
      refine lv_iload_n hx hb dX1_bar_51 rfl (lv_at hl 4 rfl) ?_
      refine xzast hx hb hK hP hD hS 4 1 rfl rfl (g := i1) (x := (bi b1)) (hi1) (by decide) dX1_bar_52 (fun H locs hP hD hS => ?_)
      have hP : va_P D vwCl (wM q (uF F 3 (upd (F 3) i1 (vp_nar .boolean (bi b1)))) (nI n) R 0 cI cZ) H := hP
      have hD : va_D A (wM q (uF F 3 (upd (F 3) i1 (vp_nar .boolean (bi b1)))) (nI n) R 0 cI cZ) := hD
      refine lv_iload hx hb dX1_bar_53 (lv_at hl 0 rfl) ?_
      exact W.zret hx hb hr (b3_nar2 hw hi1) (fun t ht hW => ⟨⟨_, (0, (uF F 3 (upd (F 3) i1 (vp_nar .boolean (bi b1))))), rfl, (by show (0, (uF F 3 (upd (F 3) i1 (vp_nar .boolean (bi b1))))).1 = thBar c1 d1 ∧ (thBar c1 d1 = 0 → (F 3 i1) = F 3 (c1 * 2 + d1).toNatClampNeg ∧ (0, (uF F 3 (upd (F 3) i1 (vp_nar .boolean (bi b1))))).2 = fBar F c1 d1 b1) ∧ (¬ thBar c1 d1 = 0 → (0, (uF F 3 (upd (F 3) i1 (vp_nar .boolean (bi b1))))).2 = F); have e9 : thBar c1 d1 = 0 := (by simp [thBar, c_5, c_14]); exact ⟨e9.symm, fun _ => ⟨by rw [ea1, nI_clamp (n := i1) (by omega)], by show _ = fBar F c1 d1 b1; unfold fBar; rw [ea1, nI_clamp (n := i1) (by omega), bi_vn]⟩, fun h9 => absurd e9 h9⟩), by rw [ht]; exact hP, hD⟩, hS.F ht⟩) hS.2.2 dX1_bar_55
set_option maxHeartbeats 4000000 in
set_option maxRecDepth 100000 in
theorem c_X1_add (l : Launch) (D : va_G) (q : Nat → Nat) (F : Nat → Nat → Int32) (n : Nat) (R : Nat → Int32) (th : Int32) (cI cZ : ClassId) (sz : Nat) (c1 : Int32) (c2 : Int32) (x1 : Int32) (hw : WF F n) : Met l yX1_add wsX1_add ({ frames := 2, cells := 0, slots := 0, locals := 42 }) (va_Pc [.ref (q 9), .int c1, .int c2, .int x1] (wS D (wM q F (nI n) R th cI cZ) (tIZ cI cZ) sz)) (va_Qi (fun (r : Int32) (u : Int32 × (Nat → Nat → Int32) × Nat) => u.1 = thAdd n c1 c2 x1 ∧ (thAdd n c1 c2 x1 = 0 → r = nI n ∧ u.2.1 = fAdd F n c1 c2 x1 ∧ u.2.2 = n + 1) ∧ (¬ thAdd n c1 c2 x1 = 0 → u.2.1 = F ∧ u.2.2 = n)) (wB D (va_A (wM q F (nI n) R th cI cZ) sz) (fun (u : Int32 × (Nat → Nat → Int32) × Nat) => wM q u.2.1 (nI u.2.2) R u.1 cI cZ)) (va_A (wM q F (nI n) R th cI cZ) sz)) 0 0 (va_A (wM q F (nI n) R th cI cZ) sz) := by
  refine wr_of (own := RX1) (cc := cX1_add) (maxL := 6) (ret := (some .int)) (by decide) rfl rfl (Nat.le_of_ble_eq_true rfl) ?_
  intro p9 e9 s m9 a9 below meth c9 ls A hx hb hr hml hlocks hown hts hP hK hD hA hl
  have hin : ∀ w ∈ wsX10, w ∈ wsX1_add := by decide +kernel
  have f23 := hts (.fieldLink RX1 23 "DangerousGoodsModel" "classes" "[I") (by decide +kernel)
  have f26 := hts (.fieldLink RX1 26 "DangerousGoodsModel" "subsidiaries" "[I") (by decide +kernel)
  have f29 := hts (.fieldLink RX1 29 "DangerousGoodsModel" "quantities" "[I") (by decide +kernel)
  have f32 := hts (.fieldLink RX1 32 "DangerousGoodsModel" "places" "[I") (by decide +kernel)
  have f46 := hts (.fieldLink RX1 46 "DangerousGoodsModel" "goods" "I") (by decide +kernel)
  have hS : va_S A s.heap s.heap [] := va_S.rf
  have hl : lv_has ls 6 [(0, .ref (q 9)), (1, .int c1), (2, .int c2), (3, .int x1)] := hl
  refine lv_iload_n hx hb dX1_add_0 rfl (lv_at hl 2 rfl) ?_
  refine lv_iconst (v := (-1)) hx hb dX1_add_1 (by decide) ?_
  refine lv_icmp_eq (x := c2) (y := (-1)) (tgt := 17) hx hb dX1_add_2 (by decide) (fun c_2 => ?_) (fun c_2 => ?_)
  · skip
    refine lv_iconst (v := 1) hx hb dX1_add_17 (by decide) ?_
    refine lv_goto (tgt := 22) hx hb dX1_add_18 (by decide) ?_
    refine lv_istore (lv' := [(4, .int 1), (0, .ref (q 9)), (1, .int c1), (2, .int c2), (3, .int x1)]) hx hb dX1_add_22 hl (by decide) rfl (fun ls hl => ?_)
    refine lv_iload_n hx hb dX1_add_24 rfl (lv_at hl 2 rfl) ?_
    refine ro_S (As := [.int c1]) (rest := []) ⟨hx, hb, hml, hown, hts⟩ (c_X1_isClass l c1) (va_cwS 1 hts gX1_add_X1_isClass rfl rfl rfl (by decide +kernel) ⟨Nat.le_of_ble_eq_true rfl, Nat.le_of_ble_eq_true rfl⟩) hP hS rfl hl.1 rfl (Nat.le_of_ble_eq_true rfl) dX1_add_25 ⟨Nat.le_of_ble_eq_true rfl, Nat.le_of_ble_eq_true rfl⟩ (fun r H locs hr9 hP hS => ?_)
    subst hr9
    refine lv_if_eq (x := (bi (mIn c1 1 9))) (tgt := 51) hx hb dX1_add_28 (by decide) (fun c_28 => ?_) (fun c_28 => ?_)
    · have c_28 := bi_e0.mp c_28
      refine lv_iconst (v := 0) hx hb dX1_add_51 (by decide) ?_
      refine lv_istore (lv' := [(5, .int 0), (4, .int 1), (0, .ref (q 9)), (1, .int c1), (2, .int c2), (3, .int x1)]) hx hb dX1_add_52 hl (by decide) rfl (fun ls hl => ?_)
      refine lv_aload_n hx hb dX1_add_54 rfl (lv_at hl 2 rfl) ?_
      refine lv_iload hx hb dX1_add_55 (lv_at hl 0 rfl) ?_
      refine lv_if_ne (x := 0) (tgt := 64) hx hb dX1_add_57 (by decide) (fun k => absurd (by decide) k) (fun _ => ?_)
      refine lv_iconst (v := 1) hx hb dX1_add_60 (by decide) ?_
      refine lv_goto (tgt := 78) hx hb dX1_add_61 (by decide) ?_
      refine wr_V (As := [.int 1]) (rest := []) (wr := []) ⟨hx, hb, hml, hown, hts⟩ (c_X1_goes l D q F n R th cI cZ _ 1) (cwV 1 hts gX1_add_X1_goes rfl rfl rfl (by decide +kernel) ⟨Nat.le_of_ble_eq_true rfl, Nat.le_of_ble_eq_true rfl⟩) hK hP hD hA [0, 1, 2, 3, 4, 5, 6, 7, 8, 9] [] rfl rfl (by decide) rfl (by decide) (by decide) (va_recv hK hP (ci := 1) (q0 := 0) rfl rfl) hS rfl hl.1 rfl (Nat.le_of_ble_eq_true rfl) dX1_add_78 ⟨Nat.le_of_ble_eq_true rfl, Nat.le_of_ble_eq_true rfl⟩ (fun r9 u9 H locs h_78 hP hD hS => ?_)
      have hP : va_P D vwCl (wM q F (nI n) R 1 cI cZ) H := hP
      have hD : va_D A (wM q F (nI n) R 1 cI cZ) := hD
      obtain rfl : r9 = 0 := h_78.trans (by decide)
      refine lv_if_ne (x := 0) (tgt := 86) hx hb dX1_add_81 (by decide) (fun k => absurd (by decide) k) (fun _ => ?_)
      refine lv_iconst (v := 0) hx hb dX1_add_84 (by decide) ?_
      exact W.iret hx hb hr (fun t ht hW => ⟨⟨_, (1, F, n), rfl, (by show (1, F, n).1 = thAdd n c1 c2 x1 ∧ (thAdd n c1 c2 x1 = 0 → 0 = nI n ∧ (1, F, n).2.1 = fAdd F n c1 c2 x1 ∧ (1, F, n).2.2 = n + 1) ∧ (¬ thAdd n c1 c2 x1 = 0 → (1, F, n).2.1 = F ∧ (1, F, n).2.2 = n); have e9 : thAdd n c1 c2 x1 = 1 := (by simp [thAdd, subOk, eq_true c_2, c_28]); exact ⟨e9.symm, fun h9 => absurd (e9.symm.trans h9) (by decide), fun _ => ⟨rfl, rfl⟩⟩), by rw [ht]; exact hP, hD⟩, hS.F ht⟩) hS.2.2 dX1_add_85
    · have c_28 := bi_n0.mp c_28
      refine lv_iload hx hb dX1_add_31 (lv_at hl 0 rfl) ?_
      refine lv_if_eq (x := 1) (tgt := 51) hx hb dX1_add_33 (by decide) (fun k => absurd k (by decide)) (fun _ => ?_)
      refine lv_iload_n hx hb dX1_add_36 rfl (lv_at hl 4 rfl) ?_
      refine lv_iconst (v := 1) hx hb dX1_add_37 (by decide) ?_
      refine lv_sipush (v := 10000) hx hb dX1_add_38 (by decide) ?_
      refine ro_S (As := [.int x1, .int 1, .int 10000]) (rest := []) ⟨hx, hb, hml, hown, hts⟩ (c_X1_isIn l x1 1 10000) (va_cwS 3 hts gX1_add_X1_isIn rfl rfl rfl (by decide +kernel) ⟨Nat.le_of_ble_eq_true rfl, Nat.le_of_ble_eq_true rfl⟩) hP hS rfl hl.1 rfl (Nat.le_of_ble_eq_true rfl) dX1_add_41 ⟨Nat.le_of_ble_eq_true rfl, Nat.le_of_ble_eq_true rfl⟩ (fun r H locs hr9 hP hS => ?_)
      subst hr9
      refine lv_if_eq (x := (bi (mIn x1 1 10000))) (tgt := 51) hx hb dX1_add_44 (by decide) (fun c_44 => ?_) (fun c_44 => ?_)
      · have c_44 := bi_e0.mp c_44
        refine lv_iconst (v := 0) hx hb dX1_add_51 (by decide) ?_
        refine lv_istore (lv' := [(5, .int 0), (4, .int 1), (0, .ref (q 9)), (1, .int c1), (2, .int c2), (3, .int x1)]) hx hb dX1_add_52 hl (by decide) rfl (fun ls hl => ?_)
        refine lv_aload_n hx hb dX1_add_54 rfl (lv_at hl 2 rfl) ?_
        refine lv_iload hx hb dX1_add_55 (lv_at hl 0 rfl) ?_
        refine lv_if_ne (x := 0) (tgt := 64) hx hb dX1_add_57 (by decide) (fun k => absurd (by decide) k) (fun _ => ?_)
        refine lv_iconst (v := 1) hx hb dX1_add_60 (by decide) ?_
        refine lv_goto (tgt := 78) hx hb dX1_add_61 (by decide) ?_
        refine wr_V (As := [.int 1]) (rest := []) (wr := []) ⟨hx, hb, hml, hown, hts⟩ (c_X1_goes l D q F n R th cI cZ _ 1) (cwV 1 hts gX1_add_X1_goes rfl rfl rfl (by decide +kernel) ⟨Nat.le_of_ble_eq_true rfl, Nat.le_of_ble_eq_true rfl⟩) hK hP hD hA [0, 1, 2, 3, 4, 5, 6, 7, 8, 9] [] rfl rfl (by decide) rfl (by decide) (by decide) (va_recv hK hP (ci := 1) (q0 := 0) rfl rfl) hS rfl hl.1 rfl (Nat.le_of_ble_eq_true rfl) dX1_add_78 ⟨Nat.le_of_ble_eq_true rfl, Nat.le_of_ble_eq_true rfl⟩ (fun r9 u9 H locs h_78 hP hD hS => ?_)
        have hP : va_P D vwCl (wM q F (nI n) R 1 cI cZ) H := hP
        have hD : va_D A (wM q F (nI n) R 1 cI cZ) := hD
        obtain rfl : r9 = 0 := h_78.trans (by decide)
        refine lv_if_ne (x := 0) (tgt := 86) hx hb dX1_add_81 (by decide) (fun k => absurd (by decide) k) (fun _ => ?_)
        refine lv_iconst (v := 0) hx hb dX1_add_84 (by decide) ?_
        exact W.iret hx hb hr (fun t ht hW => ⟨⟨_, (1, F, n), rfl, (by show (1, F, n).1 = thAdd n c1 c2 x1 ∧ (thAdd n c1 c2 x1 = 0 → 0 = nI n ∧ (1, F, n).2.1 = fAdd F n c1 c2 x1 ∧ (1, F, n).2.2 = n + 1) ∧ (¬ thAdd n c1 c2 x1 = 0 → (1, F, n).2.1 = F ∧ (1, F, n).2.2 = n); have e9 : thAdd n c1 c2 x1 = 1 := (by simp [thAdd, subOk, eq_true c_2, c_28, c_44]); exact ⟨e9.symm, fun h9 => absurd (e9.symm.trans h9) (by decide), fun _ => ⟨rfl, rfl⟩⟩), by rw [ht]; exact hP, hD⟩, hS.F ht⟩) hS.2.2 dX1_add_85
      · have c_44 := bi_n0.mp c_44
        refine lv_iconst (v := 1) hx hb dX1_add_47 (by decide) ?_
        refine lv_goto (tgt := 52) hx hb dX1_add_48 (by decide) ?_
        refine lv_istore (lv' := [(5, .int 1), (4, .int 1), (0, .ref (q 9)), (1, .int c1), (2, .int c2), (3, .int x1)]) hx hb dX1_add_52 hl (by decide) rfl (fun ls hl => ?_)
        refine lv_aload_n hx hb dX1_add_54 rfl (lv_at hl 2 rfl) ?_
        refine lv_iload hx hb dX1_add_55 (lv_at hl 0 rfl) ?_
        refine lv_if_ne (x := 1) (tgt := 64) hx hb dX1_add_57 (by decide) (fun _ => ?_) (fun k => absurd k (by decide))
        refine lv_aload_n hx hb dX1_add_64 rfl (lv_at hl 2 rfl) ?_
        refine va_get (D := D) (ci := 1) (v := .int (nI n)) hx hb hts hin hown hK hP 0 rfl rfl 4 (by decide) f46 (fun _ h9 => h9) rfl dX1_add_65 ?_
        refine lv_bipush (v := 16) hx hb dX1_add_68 (by decide) ?_
        refine lv_icmp_ne (x := (nI n)) (y := 16) (tgt := 77) hx hb dX1_add_70 (by decide) (fun c_70 => ?_) (fun c_70 => ?_)
        · have c_70 : ¬ n = 16 := fun e => c_70 (by rw [e]; rfl)
          refine lv_iconst (v := 0) hx hb dX1_add_77 (by decide) ?_
          refine wr_V (As := [.int 0]) (rest := []) (wr := []) ⟨hx, hb, hml, hown, hts⟩ (c_X1_goes l D q F n R th cI cZ _ 0) (cwV 1 hts gX1_add_X1_goes rfl rfl rfl (by decide +kernel) ⟨Nat.le_of_ble_eq_true rfl, Nat.le_of_ble_eq_true rfl⟩) hK hP hD hA [0, 1, 2, 3, 4, 5, 6, 7, 8, 9] [] rfl rfl (by decide) rfl (by decide) (by decide) (va_recv hK hP (ci := 1) (q0 := 0) rfl rfl) hS rfl hl.1 rfl (Nat.le_of_ble_eq_true rfl) dX1_add_78 ⟨Nat.le_of_ble_eq_true rfl, Nat.le_of_ble_eq_true rfl⟩ (fun r9 u9 H locs h_78 hP hD hS => ?_)
          have hP : va_P D vwCl (wM q F (nI n) R 0 cI cZ) H := hP
          have hD : va_D A (wM q F (nI n) R 0 cI cZ) := hD
          obtain rfl : r9 = 1 := h_78.trans (by decide)
          refine lv_if_ne (x := 1) (tgt := 86) hx hb dX1_add_81 (by decide) (fun _ => ?_) (fun k => absurd k (by decide))
          have hn16 : n < 16 := by have := hw.n; omega
          refine lv_aload_n hx hb dX1_add_86 rfl (lv_at hl 2 rfl) ?_
          refine va_get (D := D) (ci := 1) (v := .ref (q 4)) hx hb hts hin hown hK hP 0 rfl rfl 5 (by decide) f23 (fun _ h9 => h9) rfl dX1_add_87 ?_
          refine lv_aload_n hx hb dX1_add_90 rfl (lv_at hl 2 rfl) ?_
          refine va_get (D := D) (ci := 1) (v := .int (nI n)) hx hb hts hin hown hK hP 0 rfl rfl 4 (by decide) f46 (fun _ h9 => h9) rfl dX1_add_91 ?_
          refine lv_iload_n hx hb dX1_add_94 rfl (lv_at hl 3 rfl) ?_
          refine xiast hx hb hK hP hD hS 5 0 rfl rfl (g := n) (x := c1) (hn16) (by decide) dX1_add_95 (fun H locs hP hD hS => ?_)
          have hP : va_P D vwCl (wM q (uF F 4 (upd (F 4) n c1)) (nI n) R 0 cI cZ) H := hP
          have hD : va_D A (wM q (uF F 4 (upd (F 4) n c1)) (nI n) R 0 cI cZ) := hD
          refine lv_aload_n hx hb dX1_add_96 rfl (lv_at hl 2 rfl) ?_
          refine va_get (D := D) (ci := 1) (v := .ref (q 5)) hx hb hts hin hown hK hP 0 rfl rfl 6 (by decide) f26 (fun _ h9 => h9) rfl dX1_add_97 ?_
          refine lv_aload_n hx hb dX1_add_100 rfl (lv_at hl 2 rfl) ?_
          refine va_get (D := D) (ci := 1) (v := .int (nI n)) hx hb hts hin hown hK hP 0 rfl rfl 4 (by decide) f46 (fun _ h9 => h9) rfl dX1_add_101 ?_
          refine lv_iload_n hx hb dX1_add_104 rfl (lv_at hl 4 rfl) ?_
          refine xiast hx hb hK hP hD hS 6 0 rfl rfl (g := n) (x := c2) (hn16) (by decide) dX1_add_105 (fun H locs hP hD hS => ?_)
          have hP : va_P D vwCl (wM q (uF (uF F 4 (upd (F 4) n c1)) 5 (upd ((uF F 4 (upd (F 4) n c1)) 5) n c2)) (nI n) R 0 cI cZ) H := hP
          have hD : va_D A (wM q (uF (uF F 4 (upd (F 4) n c1)) 5 (upd ((uF F 4 (upd (F 4) n c1)) 5) n c2)) (nI n) R 0 cI cZ) := hD
          refine lv_aload_n hx hb dX1_add_106 rfl (lv_at hl 2 rfl) ?_
          refine va_get (D := D) (ci := 1) (v := .ref (q 6)) hx hb hts hin hown hK hP 0 rfl rfl 7 (by decide) f29 (fun _ h9 => h9) rfl dX1_add_107 ?_
          refine lv_aload_n hx hb dX1_add_110 rfl (lv_at hl 2 rfl) ?_
          refine va_get (D := D) (ci := 1) (v := .int (nI n)) hx hb hts hin hown hK hP 0 rfl rfl 4 (by decide) f46 (fun _ h9 => h9) rfl dX1_add_111 ?_
          refine lv_iload_n hx hb dX1_add_114 rfl (lv_at hl 5 rfl) ?_
          refine xiast hx hb hK hP hD hS 7 0 rfl rfl (g := n) (x := x1) (hn16) (by decide) dX1_add_115 (fun H locs hP hD hS => ?_)
          have hP : va_P D vwCl (wM q (uF (uF (uF F 4 (upd (F 4) n c1)) 5 (upd ((uF F 4 (upd (F 4) n c1)) 5) n c2)) 6 (upd ((uF (uF F 4 (upd (F 4) n c1)) 5 (upd ((uF F 4 (upd (F 4) n c1)) 5) n c2)) 6) n x1)) (nI n) R 0 cI cZ) H := hP
          have hD : va_D A (wM q (uF (uF (uF F 4 (upd (F 4) n c1)) 5 (upd ((uF F 4 (upd (F 4) n c1)) 5) n c2)) 6 (upd ((uF (uF F 4 (upd (F 4) n c1)) 5 (upd ((uF F 4 (upd (F 4) n c1)) 5) n c2)) 6) n x1)) (nI n) R 0 cI cZ) := hD
          refine lv_aload_n hx hb dX1_add_116 rfl (lv_at hl 2 rfl) ?_
          refine va_get (D := D) (ci := 1) (v := .ref (q 7)) hx hb hts hin hown hK hP 0 rfl rfl 8 (by decide) f32 (fun _ h9 => h9) rfl dX1_add_117 ?_
          refine lv_aload_n hx hb dX1_add_120 rfl (lv_at hl 2 rfl) ?_
          refine va_get (D := D) (ci := 1) (v := .int (nI n)) hx hb hts hin hown hK hP 0 rfl rfl 4 (by decide) f46 (fun _ h9 => h9) rfl dX1_add_121 ?_
          refine lv_iconst (v := (-1)) hx hb dX1_add_124 (by decide) ?_
          refine xiast hx hb hK hP hD hS 8 0 rfl rfl (g := n) (x := (-1)) (hn16) (by decide) dX1_add_125 (fun H locs hP hD hS => ?_)
          have hP : va_P D vwCl (wM q (uF (uF (uF (uF F 4 (upd (F 4) n c1)) 5 (upd ((uF F 4 (upd (F 4) n c1)) 5) n c2)) 6 (upd ((uF (uF F 4 (upd (F 4) n c1)) 5 (upd ((uF F 4 (upd (F 4) n c1)) 5) n c2)) 6) n x1)) 7 (upd ((uF (uF (uF F 4 (upd (F 4) n c1)) 5 (upd ((uF F 4 (upd (F 4) n c1)) 5) n c2)) 6 (upd ((uF (uF F 4 (upd (F 4) n c1)) 5 (upd ((uF F 4 (upd (F 4) n c1)) 5) n c2)) 6) n x1)) 7) n (-1))) (nI n) R 0 cI cZ) H := hP
          have hD : va_D A (wM q (uF (uF (uF (uF F 4 (upd (F 4) n c1)) 5 (upd ((uF F 4 (upd (F 4) n c1)) 5) n c2)) 6 (upd ((uF (uF F 4 (upd (F 4) n c1)) 5 (upd ((uF F 4 (upd (F 4) n c1)) 5) n c2)) 6) n x1)) 7 (upd ((uF (uF (uF F 4 (upd (F 4) n c1)) 5 (upd ((uF F 4 (upd (F 4) n c1)) 5) n c2)) 6 (upd ((uF (uF F 4 (upd (F 4) n c1)) 5 (upd ((uF F 4 (upd (F 4) n c1)) 5) n c2)) 6) n x1)) 7) n (-1))) (nI n) R 0 cI cZ) := hD
          refine lv_aload_n hx hb dX1_add_126 rfl (lv_at hl 2 rfl) ?_
          refine lv_dup hx hb dX1_add_127 rfl ?_
          refine va_get (D := D) (ci := 1) (v := .int (nI n)) hx hb hts hin hown hK hP 0 rfl rfl 4 (by decide) f46 (fun _ h9 => h9) rfl dX1_add_128 ?_
          refine lv_iconst (v := 1) hx hb dX1_add_131 (by decide) ?_
          refine lv_iadd hx hb (x := (nI n)) (y := 1) dX1_add_132 ?_
          refine W.eq (g2 := F0 m9 133 ls (.int (nI (n + 1)) :: [.ref (q 9)])) (congrArg (fun z => F0 m9 133 ls (Value.int z :: [.ref (q 9)])) (nI_1 n)) ?_
          refine va_put (D := D) (ci := 1) (v := .int (nI (n + 1))) (ty := .int) hx hb hts hin tyX1 tyX1_ok nmX1 hown hK hP hD hS 0 rfl rfl 4 (by decide) f46 (fun _ h9 => h9) rfl (by decide +kernel) rfl rfl (Nat.le_of_ble_eq_true rfl) dX1_add_133 (fun H locs hP hD hS => ?_)
          have hP : va_P D vwCl (wM q (uF (uF (uF (uF F 4 (upd (F 4) n c1)) 5 (upd ((uF F 4 (upd (F 4) n c1)) 5) n c2)) 6 (upd ((uF (uF F 4 (upd (F 4) n c1)) 5 (upd ((uF F 4 (upd (F 4) n c1)) 5) n c2)) 6) n x1)) 7 (upd ((uF (uF (uF F 4 (upd (F 4) n c1)) 5 (upd ((uF F 4 (upd (F 4) n c1)) 5) n c2)) 6 (upd ((uF (uF F 4 (upd (F 4) n c1)) 5 (upd ((uF F 4 (upd (F 4) n c1)) 5) n c2)) 6) n x1)) 7) n (-1))) (nI (n + 1)) R 0 cI cZ) H := hP
          have hD : va_D A (wM q (uF (uF (uF (uF F 4 (upd (F 4) n c1)) 5 (upd ((uF F 4 (upd (F 4) n c1)) 5) n c2)) 6 (upd ((uF (uF F 4 (upd (F 4) n c1)) 5 (upd ((uF F 4 (upd (F 4) n c1)) 5) n c2)) 6) n x1)) 7 (upd ((uF (uF (uF F 4 (upd (F 4) n c1)) 5 (upd ((uF F 4 (upd (F 4) n c1)) 5) n c2)) 6 (upd ((uF (uF F 4 (upd (F 4) n c1)) 5 (upd ((uF F 4 (upd (F 4) n c1)) 5) n c2)) 6) n x1)) 7) n (-1))) (nI (n + 1)) R 0 cI cZ) := hD
          refine lv_aload_n hx hb dX1_add_136 rfl (lv_at hl 2 rfl) ?_
          refine va_get (D := D) (ci := 1) (v := .int (nI (n + 1))) hx hb hts hin hown hK hP 0 rfl rfl 4 (by decide) f46 (fun _ h9 => h9) rfl dX1_add_137 ?_
          refine lv_iconst (v := 1) hx hb dX1_add_140 (by decide) ?_
          refine lv_isub hx hb (x := (nI (n + 1))) (y := 1) dX1_add_141 ?_
          refine W.eq (g2 := F0 m9 142 ls (.int (nI n) :: [])) (congrArg (fun z => F0 m9 142 ls (Value.int z :: [])) (nI_pred n)) ?_
          exact W.iret hx hb hr (fun t ht hW => ⟨⟨_, (0, (uF (uF (uF (uF F 4 (upd (F 4) n c1)) 5 (upd ((uF F 4 (upd (F 4) n c1)) 5) n c2)) 6 (upd ((uF (uF F 4 (upd (F 4) n c1)) 5 (upd ((uF F 4 (upd (F 4) n c1)) 5) n c2)) 6) n x1)) 7 (upd ((uF (uF (uF F 4 (upd (F 4) n c1)) 5 (upd ((uF F 4 (upd (F 4) n c1)) 5) n c2)) 6 (upd ((uF (uF F 4 (upd (F 4) n c1)) 5 (upd ((uF F 4 (upd (F 4) n c1)) 5) n c2)) 6) n x1)) 7) n (-1))), (n + 1)), rfl, (by show (0, (uF (uF (uF (uF F 4 (upd (F 4) n c1)) 5 (upd ((uF F 4 (upd (F 4) n c1)) 5) n c2)) 6 (upd ((uF (uF F 4 (upd (F 4) n c1)) 5 (upd ((uF F 4 (upd (F 4) n c1)) 5) n c2)) 6) n x1)) 7 (upd ((uF (uF (uF F 4 (upd (F 4) n c1)) 5 (upd ((uF F 4 (upd (F 4) n c1)) 5) n c2)) 6 (upd ((uF (uF F 4 (upd (F 4) n c1)) 5 (upd ((uF F 4 (upd (F 4) n c1)) 5) n c2)) 6) n x1)) 7) n (-1))), (n + 1)).1 = thAdd n c1 c2 x1 ∧ (thAdd n c1 c2 x1 = 0 → (nI n) = nI n ∧ (0, (uF (uF (uF (uF F 4 (upd (F 4) n c1)) 5 (upd ((uF F 4 (upd (F 4) n c1)) 5) n c2)) 6 (upd ((uF (uF F 4 (upd (F 4) n c1)) 5 (upd ((uF F 4 (upd (F 4) n c1)) 5) n c2)) 6) n x1)) 7 (upd ((uF (uF (uF F 4 (upd (F 4) n c1)) 5 (upd ((uF F 4 (upd (F 4) n c1)) 5) n c2)) 6 (upd ((uF (uF F 4 (upd (F 4) n c1)) 5 (upd ((uF F 4 (upd (F 4) n c1)) 5) n c2)) 6) n x1)) 7) n (-1))), (n + 1)).2.1 = fAdd F n c1 c2 x1 ∧ (0, (uF (uF (uF (uF F 4 (upd (F 4) n c1)) 5 (upd ((uF F 4 (upd (F 4) n c1)) 5) n c2)) 6 (upd ((uF (uF F 4 (upd (F 4) n c1)) 5 (upd ((uF F 4 (upd (F 4) n c1)) 5) n c2)) 6) n x1)) 7 (upd ((uF (uF (uF F 4 (upd (F 4) n c1)) 5 (upd ((uF F 4 (upd (F 4) n c1)) 5) n c2)) 6 (upd ((uF (uF F 4 (upd (F 4) n c1)) 5 (upd ((uF F 4 (upd (F 4) n c1)) 5) n c2)) 6) n x1)) 7) n (-1))), (n + 1)).2.2 = n + 1) ∧ (¬ thAdd n c1 c2 x1 = 0 → (0, (uF (uF (uF (uF F 4 (upd (F 4) n c1)) 5 (upd ((uF F 4 (upd (F 4) n c1)) 5) n c2)) 6 (upd ((uF (uF F 4 (upd (F 4) n c1)) 5 (upd ((uF F 4 (upd (F 4) n c1)) 5) n c2)) 6) n x1)) 7 (upd ((uF (uF (uF F 4 (upd (F 4) n c1)) 5 (upd ((uF F 4 (upd (F 4) n c1)) 5) n c2)) 6 (upd ((uF (uF F 4 (upd (F 4) n c1)) 5 (upd ((uF F 4 (upd (F 4) n c1)) 5) n c2)) 6) n x1)) 7) n (-1))), (n + 1)).2.1 = F ∧ (0, (uF (uF (uF (uF F 4 (upd (F 4) n c1)) 5 (upd ((uF F 4 (upd (F 4) n c1)) 5) n c2)) 6 (upd ((uF (uF F 4 (upd (F 4) n c1)) 5 (upd ((uF F 4 (upd (F 4) n c1)) 5) n c2)) 6) n x1)) 7 (upd ((uF (uF (uF F 4 (upd (F 4) n c1)) 5 (upd ((uF F 4 (upd (F 4) n c1)) 5) n c2)) 6 (upd ((uF (uF F 4 (upd (F 4) n c1)) 5 (upd ((uF F 4 (upd (F 4) n c1)) 5) n c2)) 6) n x1)) 7) n (-1))), (n + 1)).2.2 = n); have e9 : thAdd n c1 c2 x1 = 0 := (by simp [thAdd, subOk, eq_true c_2, c_28, c_44, eq_false c_70]); exact ⟨e9.symm, fun _ => ⟨rfl, rfl, rfl⟩, fun h9 => absurd e9 h9⟩), by rw [ht]; exact hP, hD⟩, hS.F ht⟩) hS.2.2 dX1_add_142
        · have c_70 : n = 16 := (nI_eq (b := 16) (by have := hw.n; omega) (by decide)).mp c_70
          refine lv_iconst (v := 2) hx hb dX1_add_73 (by decide) ?_
          refine lv_goto (tgt := 78) hx hb dX1_add_74 (by decide) ?_
          refine wr_V (As := [.int 2]) (rest := []) (wr := []) ⟨hx, hb, hml, hown, hts⟩ (c_X1_goes l D q F n R th cI cZ _ 2) (cwV 1 hts gX1_add_X1_goes rfl rfl rfl (by decide +kernel) ⟨Nat.le_of_ble_eq_true rfl, Nat.le_of_ble_eq_true rfl⟩) hK hP hD hA [0, 1, 2, 3, 4, 5, 6, 7, 8, 9] [] rfl rfl (by decide) rfl (by decide) (by decide) (va_recv hK hP (ci := 1) (q0 := 0) rfl rfl) hS rfl hl.1 rfl (Nat.le_of_ble_eq_true rfl) dX1_add_78 ⟨Nat.le_of_ble_eq_true rfl, Nat.le_of_ble_eq_true rfl⟩ (fun r9 u9 H locs h_78 hP hD hS => ?_)
          have hP : va_P D vwCl (wM q F (nI n) R 2 cI cZ) H := hP
          have hD : va_D A (wM q F (nI n) R 2 cI cZ) := hD
          obtain rfl : r9 = 0 := h_78.trans (by decide)
          refine lv_if_ne (x := 0) (tgt := 86) hx hb dX1_add_81 (by decide) (fun k => absurd (by decide) k) (fun _ => ?_)
          refine lv_iconst (v := 0) hx hb dX1_add_84 (by decide) ?_
          exact W.iret hx hb hr (fun t ht hW => ⟨⟨_, (2, F, n), rfl, (by show (2, F, n).1 = thAdd n c1 c2 x1 ∧ (thAdd n c1 c2 x1 = 0 → 0 = nI n ∧ (2, F, n).2.1 = fAdd F n c1 c2 x1 ∧ (2, F, n).2.2 = n + 1) ∧ (¬ thAdd n c1 c2 x1 = 0 → (2, F, n).2.1 = F ∧ (2, F, n).2.2 = n); have e9 : thAdd n c1 c2 x1 = 2 := (by simp [thAdd, subOk, eq_true c_2, c_28, c_44, eq_true c_70]); exact ⟨e9.symm, fun h9 => absurd (e9.symm.trans h9) (by decide), fun _ => ⟨rfl, rfl⟩⟩), by rw [ht]; exact hP, hD⟩, hS.F ht⟩) hS.2.2 dX1_add_85
  · skip
    refine lv_iload_n hx hb dX1_add_5 rfl (lv_at hl 2 rfl) ?_
    refine ro_S (As := [.int c2]) (rest := []) ⟨hx, hb, hml, hown, hts⟩ (c_X1_isClass l c2) (va_cwS 1 hts gX1_add_X1_isClass rfl rfl rfl (by decide +kernel) ⟨Nat.le_of_ble_eq_true rfl, Nat.le_of_ble_eq_true rfl⟩) hP hS rfl hl.1 rfl (Nat.le_of_ble_eq_true rfl) dX1_add_6 ⟨Nat.le_of_ble_eq_true rfl, Nat.le_of_ble_eq_true rfl⟩ (fun r H locs hr9 hP hS => ?_)
    subst hr9
    refine lv_if_eq (x := (bi (mIn c2 1 9))) (tgt := 21) hx hb dX1_add_9 (by decide) (fun c_9 => ?_) (fun c_9 => ?_)
    · have c_9 := bi_e0.mp c_9
      refine lv_iconst (v := 0) hx hb dX1_add_21 (by decide) ?_
      refine lv_istore (lv' := [(4, .int 0), (0, .ref (q 9)), (1, .int c1), (2, .int c2), (3, .int x1)]) hx hb dX1_add_22 hl (by decide) rfl (fun ls hl => ?_)
      refine lv_iload_n hx hb dX1_add_24 rfl (lv_at hl 2 rfl) ?_
      refine ro_S (As := [.int c1]) (rest := []) ⟨hx, hb, hml, hown, hts⟩ (c_X1_isClass l c1) (va_cwS 1 hts gX1_add_X1_isClass rfl rfl rfl (by decide +kernel) ⟨Nat.le_of_ble_eq_true rfl, Nat.le_of_ble_eq_true rfl⟩) hP hS rfl hl.1 rfl (Nat.le_of_ble_eq_true rfl) dX1_add_25 ⟨Nat.le_of_ble_eq_true rfl, Nat.le_of_ble_eq_true rfl⟩ (fun r H locs hr9 hP hS => ?_)
      subst hr9
      refine lv_if_eq (x := (bi (mIn c1 1 9))) (tgt := 51) hx hb dX1_add_28 (by decide) (fun c_28 => ?_) (fun c_28 => ?_)
      · have c_28 := bi_e0.mp c_28
        refine lv_iconst (v := 0) hx hb dX1_add_51 (by decide) ?_
        refine lv_istore (lv' := [(5, .int 0), (4, .int 0), (0, .ref (q 9)), (1, .int c1), (2, .int c2), (3, .int x1)]) hx hb dX1_add_52 hl (by decide) rfl (fun ls hl => ?_)
        refine lv_aload_n hx hb dX1_add_54 rfl (lv_at hl 2 rfl) ?_
        refine lv_iload hx hb dX1_add_55 (lv_at hl 0 rfl) ?_
        refine lv_if_ne (x := 0) (tgt := 64) hx hb dX1_add_57 (by decide) (fun k => absurd (by decide) k) (fun _ => ?_)
        refine lv_iconst (v := 1) hx hb dX1_add_60 (by decide) ?_
        refine lv_goto (tgt := 78) hx hb dX1_add_61 (by decide) ?_
        refine wr_V (As := [.int 1]) (rest := []) (wr := []) ⟨hx, hb, hml, hown, hts⟩ (c_X1_goes l D q F n R th cI cZ _ 1) (cwV 1 hts gX1_add_X1_goes rfl rfl rfl (by decide +kernel) ⟨Nat.le_of_ble_eq_true rfl, Nat.le_of_ble_eq_true rfl⟩) hK hP hD hA [0, 1, 2, 3, 4, 5, 6, 7, 8, 9] [] rfl rfl (by decide) rfl (by decide) (by decide) (va_recv hK hP (ci := 1) (q0 := 0) rfl rfl) hS rfl hl.1 rfl (Nat.le_of_ble_eq_true rfl) dX1_add_78 ⟨Nat.le_of_ble_eq_true rfl, Nat.le_of_ble_eq_true rfl⟩ (fun r9 u9 H locs h_78 hP hD hS => ?_)
        have hP : va_P D vwCl (wM q F (nI n) R 1 cI cZ) H := hP
        have hD : va_D A (wM q F (nI n) R 1 cI cZ) := hD
        obtain rfl : r9 = 0 := h_78.trans (by decide)
        refine lv_if_ne (x := 0) (tgt := 86) hx hb dX1_add_81 (by decide) (fun k => absurd (by decide) k) (fun _ => ?_)
        refine lv_iconst (v := 0) hx hb dX1_add_84 (by decide) ?_
        exact W.iret hx hb hr (fun t ht hW => ⟨⟨_, (1, F, n), rfl, (by show (1, F, n).1 = thAdd n c1 c2 x1 ∧ (thAdd n c1 c2 x1 = 0 → 0 = nI n ∧ (1, F, n).2.1 = fAdd F n c1 c2 x1 ∧ (1, F, n).2.2 = n + 1) ∧ (¬ thAdd n c1 c2 x1 = 0 → (1, F, n).2.1 = F ∧ (1, F, n).2.2 = n); have e9 : thAdd n c1 c2 x1 = 1 := (by simp [thAdd, subOk, eq_false c_2, c_9, c_28]); exact ⟨e9.symm, fun h9 => absurd (e9.symm.trans h9) (by decide), fun _ => ⟨rfl, rfl⟩⟩), by rw [ht]; exact hP, hD⟩, hS.F ht⟩) hS.2.2 dX1_add_85
      · have c_28 := bi_n0.mp c_28
        refine lv_iload hx hb dX1_add_31 (lv_at hl 0 rfl) ?_
        refine lv_if_eq (x := 0) (tgt := 51) hx hb dX1_add_33 (by decide) (fun _ => ?_) (fun k => absurd (by decide) k)
        refine lv_iconst (v := 0) hx hb dX1_add_51 (by decide) ?_
        refine lv_istore (lv' := [(5, .int 0), (4, .int 0), (0, .ref (q 9)), (1, .int c1), (2, .int c2), (3, .int x1)]) hx hb dX1_add_52 hl (by decide) rfl (fun ls hl => ?_)
        refine lv_aload_n hx hb dX1_add_54 rfl (lv_at hl 2 rfl) ?_
        refine lv_iload hx hb dX1_add_55 (lv_at hl 0 rfl) ?_
        refine lv_if_ne (x := 0) (tgt := 64) hx hb dX1_add_57 (by decide) (fun k => absurd (by decide) k) (fun _ => ?_)
        refine lv_iconst (v := 1) hx hb dX1_add_60 (by decide) ?_
        refine lv_goto (tgt := 78) hx hb dX1_add_61 (by decide) ?_
        refine wr_V (As := [.int 1]) (rest := []) (wr := []) ⟨hx, hb, hml, hown, hts⟩ (c_X1_goes l D q F n R th cI cZ _ 1) (cwV 1 hts gX1_add_X1_goes rfl rfl rfl (by decide +kernel) ⟨Nat.le_of_ble_eq_true rfl, Nat.le_of_ble_eq_true rfl⟩) hK hP hD hA [0, 1, 2, 3, 4, 5, 6, 7, 8, 9] [] rfl rfl (by decide) rfl (by decide) (by decide) (va_recv hK hP (ci := 1) (q0 := 0) rfl rfl) hS rfl hl.1 rfl (Nat.le_of_ble_eq_true rfl) dX1_add_78 ⟨Nat.le_of_ble_eq_true rfl, Nat.le_of_ble_eq_true rfl⟩ (fun r9 u9 H locs h_78 hP hD hS => ?_)
        have hP : va_P D vwCl (wM q F (nI n) R 1 cI cZ) H := hP
        have hD : va_D A (wM q F (nI n) R 1 cI cZ) := hD
        obtain rfl : r9 = 0 := h_78.trans (by decide)
        refine lv_if_ne (x := 0) (tgt := 86) hx hb dX1_add_81 (by decide) (fun k => absurd (by decide) k) (fun _ => ?_)
        refine lv_iconst (v := 0) hx hb dX1_add_84 (by decide) ?_
        exact W.iret hx hb hr (fun t ht hW => ⟨⟨_, (1, F, n), rfl, (by show (1, F, n).1 = thAdd n c1 c2 x1 ∧ (thAdd n c1 c2 x1 = 0 → 0 = nI n ∧ (1, F, n).2.1 = fAdd F n c1 c2 x1 ∧ (1, F, n).2.2 = n + 1) ∧ (¬ thAdd n c1 c2 x1 = 0 → (1, F, n).2.1 = F ∧ (1, F, n).2.2 = n); have e9 : thAdd n c1 c2 x1 = 1 := (by simp [thAdd, subOk, eq_false c_2, c_9, c_28]); exact ⟨e9.symm, fun h9 => absurd (e9.symm.trans h9) (by decide), fun _ => ⟨rfl, rfl⟩⟩), by rw [ht]; exact hP, hD⟩, hS.F ht⟩) hS.2.2 dX1_add_85
    · have c_9 := bi_n0.mp c_9
      refine lv_iload_n hx hb dX1_add_12 rfl (lv_at hl 2 rfl) ?_
      refine lv_iload_n hx hb dX1_add_13 rfl (lv_at hl 1 rfl) ?_
      refine lv_icmp_eq (x := c2) (y := c1) (tgt := 21) hx hb dX1_add_14 (by decide) (fun c_14 => ?_) (fun c_14 => ?_)
      · skip
        refine lv_iconst (v := 0) hx hb dX1_add_21 (by decide) ?_
        refine lv_istore (lv' := [(4, .int 0), (0, .ref (q 9)), (1, .int c1), (2, .int c2), (3, .int x1)]) hx hb dX1_add_22 hl (by decide) rfl (fun ls hl => ?_)
        refine lv_iload_n hx hb dX1_add_24 rfl (lv_at hl 2 rfl) ?_
        refine ro_S (As := [.int c1]) (rest := []) ⟨hx, hb, hml, hown, hts⟩ (c_X1_isClass l c1) (va_cwS 1 hts gX1_add_X1_isClass rfl rfl rfl (by decide +kernel) ⟨Nat.le_of_ble_eq_true rfl, Nat.le_of_ble_eq_true rfl⟩) hP hS rfl hl.1 rfl (Nat.le_of_ble_eq_true rfl) dX1_add_25 ⟨Nat.le_of_ble_eq_true rfl, Nat.le_of_ble_eq_true rfl⟩ (fun r H locs hr9 hP hS => ?_)
        subst hr9
        refine lv_if_eq (x := (bi (mIn c1 1 9))) (tgt := 51) hx hb dX1_add_28 (by decide) (fun c_28 => ?_) (fun c_28 => ?_)
        · have c_28 := bi_e0.mp c_28
          refine lv_iconst (v := 0) hx hb dX1_add_51 (by decide) ?_
          refine lv_istore (lv' := [(5, .int 0), (4, .int 0), (0, .ref (q 9)), (1, .int c1), (2, .int c2), (3, .int x1)]) hx hb dX1_add_52 hl (by decide) rfl (fun ls hl => ?_)
          refine lv_aload_n hx hb dX1_add_54 rfl (lv_at hl 2 rfl) ?_
          refine lv_iload hx hb dX1_add_55 (lv_at hl 0 rfl) ?_
          refine lv_if_ne (x := 0) (tgt := 64) hx hb dX1_add_57 (by decide) (fun k => absurd (by decide) k) (fun _ => ?_)
          refine lv_iconst (v := 1) hx hb dX1_add_60 (by decide) ?_
          refine lv_goto (tgt := 78) hx hb dX1_add_61 (by decide) ?_
          refine wr_V (As := [.int 1]) (rest := []) (wr := []) ⟨hx, hb, hml, hown, hts⟩ (c_X1_goes l D q F n R th cI cZ _ 1) (cwV 1 hts gX1_add_X1_goes rfl rfl rfl (by decide +kernel) ⟨Nat.le_of_ble_eq_true rfl, Nat.le_of_ble_eq_true rfl⟩) hK hP hD hA [0, 1, 2, 3, 4, 5, 6, 7, 8, 9] [] rfl rfl (by decide) rfl (by decide) (by decide) (va_recv hK hP (ci := 1) (q0 := 0) rfl rfl) hS rfl hl.1 rfl (Nat.le_of_ble_eq_true rfl) dX1_add_78 ⟨Nat.le_of_ble_eq_true rfl, Nat.le_of_ble_eq_true rfl⟩ (fun r9 u9 H locs h_78 hP hD hS => ?_)
          have hP : va_P D vwCl (wM q F (nI n) R 1 cI cZ) H := hP
          have hD : va_D A (wM q F (nI n) R 1 cI cZ) := hD
          obtain rfl : r9 = 0 := h_78.trans (by decide)
          refine lv_if_ne (x := 0) (tgt := 86) hx hb dX1_add_81 (by decide) (fun k => absurd (by decide) k) (fun _ => ?_)
          refine lv_iconst (v := 0) hx hb dX1_add_84 (by decide) ?_
          exact W.iret hx hb hr (fun t ht hW => ⟨⟨_, (1, F, n), rfl, (by show (1, F, n).1 = thAdd n c1 c2 x1 ∧ (thAdd n c1 c2 x1 = 0 → 0 = nI n ∧ (1, F, n).2.1 = fAdd F n c1 c2 x1 ∧ (1, F, n).2.2 = n + 1) ∧ (¬ thAdd n c1 c2 x1 = 0 → (1, F, n).2.1 = F ∧ (1, F, n).2.2 = n); have e9 : thAdd n c1 c2 x1 = 1 := (by simp [thAdd, subOk, eq_false c_2, c_9, eq_true c_14, c_28]); exact ⟨e9.symm, fun h9 => absurd (e9.symm.trans h9) (by decide), fun _ => ⟨rfl, rfl⟩⟩), by rw [ht]; exact hP, hD⟩, hS.F ht⟩) hS.2.2 dX1_add_85
        · have c_28 := bi_n0.mp c_28
          refine lv_iload hx hb dX1_add_31 (lv_at hl 0 rfl) ?_
          refine lv_if_eq (x := 0) (tgt := 51) hx hb dX1_add_33 (by decide) (fun _ => ?_) (fun k => absurd (by decide) k)
          refine lv_iconst (v := 0) hx hb dX1_add_51 (by decide) ?_
          refine lv_istore (lv' := [(5, .int 0), (4, .int 0), (0, .ref (q 9)), (1, .int c1), (2, .int c2), (3, .int x1)]) hx hb dX1_add_52 hl (by decide) rfl (fun ls hl => ?_)
          refine lv_aload_n hx hb dX1_add_54 rfl (lv_at hl 2 rfl) ?_
          refine lv_iload hx hb dX1_add_55 (lv_at hl 0 rfl) ?_
          refine lv_if_ne (x := 0) (tgt := 64) hx hb dX1_add_57 (by decide) (fun k => absurd (by decide) k) (fun _ => ?_)
          refine lv_iconst (v := 1) hx hb dX1_add_60 (by decide) ?_
          refine lv_goto (tgt := 78) hx hb dX1_add_61 (by decide) ?_
          refine wr_V (As := [.int 1]) (rest := []) (wr := []) ⟨hx, hb, hml, hown, hts⟩ (c_X1_goes l D q F n R th cI cZ _ 1) (cwV 1 hts gX1_add_X1_goes rfl rfl rfl (by decide +kernel) ⟨Nat.le_of_ble_eq_true rfl, Nat.le_of_ble_eq_true rfl⟩) hK hP hD hA [0, 1, 2, 3, 4, 5, 6, 7, 8, 9] [] rfl rfl (by decide) rfl (by decide) (by decide) (va_recv hK hP (ci := 1) (q0 := 0) rfl rfl) hS rfl hl.1 rfl (Nat.le_of_ble_eq_true rfl) dX1_add_78 ⟨Nat.le_of_ble_eq_true rfl, Nat.le_of_ble_eq_true rfl⟩ (fun r9 u9 H locs h_78 hP hD hS => ?_)
          have hP : va_P D vwCl (wM q F (nI n) R 1 cI cZ) H := hP
          have hD : va_D A (wM q F (nI n) R 1 cI cZ) := hD
          obtain rfl : r9 = 0 := h_78.trans (by decide)
          refine lv_if_ne (x := 0) (tgt := 86) hx hb dX1_add_81 (by decide) (fun k => absurd (by decide) k) (fun _ => ?_)
          refine lv_iconst (v := 0) hx hb dX1_add_84 (by decide) ?_
          exact W.iret hx hb hr (fun t ht hW => ⟨⟨_, (1, F, n), rfl, (by show (1, F, n).1 = thAdd n c1 c2 x1 ∧ (thAdd n c1 c2 x1 = 0 → 0 = nI n ∧ (1, F, n).2.1 = fAdd F n c1 c2 x1 ∧ (1, F, n).2.2 = n + 1) ∧ (¬ thAdd n c1 c2 x1 = 0 → (1, F, n).2.1 = F ∧ (1, F, n).2.2 = n); have e9 : thAdd n c1 c2 x1 = 1 := (by simp [thAdd, subOk, eq_false c_2, c_9, eq_true c_14, c_28]); exact ⟨e9.symm, fun h9 => absurd (e9.symm.trans h9) (by decide), fun _ => ⟨rfl, rfl⟩⟩), by rw [ht]; exact hP, hD⟩, hS.F ht⟩) hS.2.2 dX1_add_85
      · skip
        refine lv_iconst (v := 1) hx hb dX1_add_17 (by decide) ?_
        refine lv_goto (tgt := 22) hx hb dX1_add_18 (by decide) ?_
        refine lv_istore (lv' := [(4, .int 1), (0, .ref (q 9)), (1, .int c1), (2, .int c2), (3, .int x1)]) hx hb dX1_add_22 hl (by decide) rfl (fun ls hl => ?_)
        refine lv_iload_n hx hb dX1_add_24 rfl (lv_at hl 2 rfl) ?_
        refine ro_S (As := [.int c1]) (rest := []) ⟨hx, hb, hml, hown, hts⟩ (c_X1_isClass l c1) (va_cwS 1 hts gX1_add_X1_isClass rfl rfl rfl (by decide +kernel) ⟨Nat.le_of_ble_eq_true rfl, Nat.le_of_ble_eq_true rfl⟩) hP hS rfl hl.1 rfl (Nat.le_of_ble_eq_true rfl) dX1_add_25 ⟨Nat.le_of_ble_eq_true rfl, Nat.le_of_ble_eq_true rfl⟩ (fun r H locs hr9 hP hS => ?_)
        subst hr9
        refine lv_if_eq (x := (bi (mIn c1 1 9))) (tgt := 51) hx hb dX1_add_28 (by decide) (fun c_28 => ?_) (fun c_28 => ?_)
        · have c_28 := bi_e0.mp c_28
          refine lv_iconst (v := 0) hx hb dX1_add_51 (by decide) ?_
          refine lv_istore (lv' := [(5, .int 0), (4, .int 1), (0, .ref (q 9)), (1, .int c1), (2, .int c2), (3, .int x1)]) hx hb dX1_add_52 hl (by decide) rfl (fun ls hl => ?_)
          refine lv_aload_n hx hb dX1_add_54 rfl (lv_at hl 2 rfl) ?_
          refine lv_iload hx hb dX1_add_55 (lv_at hl 0 rfl) ?_
          refine lv_if_ne (x := 0) (tgt := 64) hx hb dX1_add_57 (by decide) (fun k => absurd (by decide) k) (fun _ => ?_)
          refine lv_iconst (v := 1) hx hb dX1_add_60 (by decide) ?_
          refine lv_goto (tgt := 78) hx hb dX1_add_61 (by decide) ?_
          refine wr_V (As := [.int 1]) (rest := []) (wr := []) ⟨hx, hb, hml, hown, hts⟩ (c_X1_goes l D q F n R th cI cZ _ 1) (cwV 1 hts gX1_add_X1_goes rfl rfl rfl (by decide +kernel) ⟨Nat.le_of_ble_eq_true rfl, Nat.le_of_ble_eq_true rfl⟩) hK hP hD hA [0, 1, 2, 3, 4, 5, 6, 7, 8, 9] [] rfl rfl (by decide) rfl (by decide) (by decide) (va_recv hK hP (ci := 1) (q0 := 0) rfl rfl) hS rfl hl.1 rfl (Nat.le_of_ble_eq_true rfl) dX1_add_78 ⟨Nat.le_of_ble_eq_true rfl, Nat.le_of_ble_eq_true rfl⟩ (fun r9 u9 H locs h_78 hP hD hS => ?_)
          have hP : va_P D vwCl (wM q F (nI n) R 1 cI cZ) H := hP
          have hD : va_D A (wM q F (nI n) R 1 cI cZ) := hD
          obtain rfl : r9 = 0 := h_78.trans (by decide)
          refine lv_if_ne (x := 0) (tgt := 86) hx hb dX1_add_81 (by decide) (fun k => absurd (by decide) k) (fun _ => ?_)
          refine lv_iconst (v := 0) hx hb dX1_add_84 (by decide) ?_
          exact W.iret hx hb hr (fun t ht hW => ⟨⟨_, (1, F, n), rfl, (by show (1, F, n).1 = thAdd n c1 c2 x1 ∧ (thAdd n c1 c2 x1 = 0 → 0 = nI n ∧ (1, F, n).2.1 = fAdd F n c1 c2 x1 ∧ (1, F, n).2.2 = n + 1) ∧ (¬ thAdd n c1 c2 x1 = 0 → (1, F, n).2.1 = F ∧ (1, F, n).2.2 = n); have e9 : thAdd n c1 c2 x1 = 1 := (by simp [thAdd, subOk, eq_false c_2, c_9, eq_false c_14, c_28]); exact ⟨e9.symm, fun h9 => absurd (e9.symm.trans h9) (by decide), fun _ => ⟨rfl, rfl⟩⟩), by rw [ht]; exact hP, hD⟩, hS.F ht⟩) hS.2.2 dX1_add_85
        · have c_28 := bi_n0.mp c_28
          refine lv_iload hx hb dX1_add_31 (lv_at hl 0 rfl) ?_
          refine lv_if_eq (x := 1) (tgt := 51) hx hb dX1_add_33 (by decide) (fun k => absurd k (by decide)) (fun _ => ?_)
          refine lv_iload_n hx hb dX1_add_36 rfl (lv_at hl 4 rfl) ?_
          refine lv_iconst (v := 1) hx hb dX1_add_37 (by decide) ?_
          refine lv_sipush (v := 10000) hx hb dX1_add_38 (by decide) ?_
          refine ro_S (As := [.int x1, .int 1, .int 10000]) (rest := []) ⟨hx, hb, hml, hown, hts⟩ (c_X1_isIn l x1 1 10000) (va_cwS 3 hts gX1_add_X1_isIn rfl rfl rfl (by decide +kernel) ⟨Nat.le_of_ble_eq_true rfl, Nat.le_of_ble_eq_true rfl⟩) hP hS rfl hl.1 rfl (Nat.le_of_ble_eq_true rfl) dX1_add_41 ⟨Nat.le_of_ble_eq_true rfl, Nat.le_of_ble_eq_true rfl⟩ (fun r H locs hr9 hP hS => ?_)
          subst hr9
          refine lv_if_eq (x := (bi (mIn x1 1 10000))) (tgt := 51) hx hb dX1_add_44 (by decide) (fun c_44 => ?_) (fun c_44 => ?_)
          · have c_44 := bi_e0.mp c_44
            refine lv_iconst (v := 0) hx hb dX1_add_51 (by decide) ?_
            refine lv_istore (lv' := [(5, .int 0), (4, .int 1), (0, .ref (q 9)), (1, .int c1), (2, .int c2), (3, .int x1)]) hx hb dX1_add_52 hl (by decide) rfl (fun ls hl => ?_)
            refine lv_aload_n hx hb dX1_add_54 rfl (lv_at hl 2 rfl) ?_
            refine lv_iload hx hb dX1_add_55 (lv_at hl 0 rfl) ?_
            refine lv_if_ne (x := 0) (tgt := 64) hx hb dX1_add_57 (by decide) (fun k => absurd (by decide) k) (fun _ => ?_)
            refine lv_iconst (v := 1) hx hb dX1_add_60 (by decide) ?_
            refine lv_goto (tgt := 78) hx hb dX1_add_61 (by decide) ?_
            refine wr_V (As := [.int 1]) (rest := []) (wr := []) ⟨hx, hb, hml, hown, hts⟩ (c_X1_goes l D q F n R th cI cZ _ 1) (cwV 1 hts gX1_add_X1_goes rfl rfl rfl (by decide +kernel) ⟨Nat.le_of_ble_eq_true rfl, Nat.le_of_ble_eq_true rfl⟩) hK hP hD hA [0, 1, 2, 3, 4, 5, 6, 7, 8, 9] [] rfl rfl (by decide) rfl (by decide) (by decide) (va_recv hK hP (ci := 1) (q0 := 0) rfl rfl) hS rfl hl.1 rfl (Nat.le_of_ble_eq_true rfl) dX1_add_78 ⟨Nat.le_of_ble_eq_true rfl, Nat.le_of_ble_eq_true rfl⟩ (fun r9 u9 H locs h_78 hP hD hS => ?_)
            have hP : va_P D vwCl (wM q F (nI n) R 1 cI cZ) H := hP
            have hD : va_D A (wM q F (nI n) R 1 cI cZ) := hD
            obtain rfl : r9 = 0 := h_78.trans (by decide)
            refine lv_if_ne (x := 0) (tgt := 86) hx hb dX1_add_81 (by decide) (fun k => absurd (by decide) k) (fun _ => ?_)
            refine lv_iconst (v := 0) hx hb dX1_add_84 (by decide) ?_
            exact W.iret hx hb hr (fun t ht hW => ⟨⟨_, (1, F, n), rfl, (by show (1, F, n).1 = thAdd n c1 c2 x1 ∧ (thAdd n c1 c2 x1 = 0 → 0 = nI n ∧ (1, F, n).2.1 = fAdd F n c1 c2 x1 ∧ (1, F, n).2.2 = n + 1) ∧ (¬ thAdd n c1 c2 x1 = 0 → (1, F, n).2.1 = F ∧ (1, F, n).2.2 = n); have e9 : thAdd n c1 c2 x1 = 1 := (by simp [thAdd, subOk, eq_false c_2, c_9, eq_false c_14, c_28, c_44]); exact ⟨e9.symm, fun h9 => absurd (e9.symm.trans h9) (by decide), fun _ => ⟨rfl, rfl⟩⟩), by rw [ht]; exact hP, hD⟩, hS.F ht⟩) hS.2.2 dX1_add_85
          · have c_44 := bi_n0.mp c_44
            refine lv_iconst (v := 1) hx hb dX1_add_47 (by decide) ?_
            refine lv_goto (tgt := 52) hx hb dX1_add_48 (by decide) ?_
            refine lv_istore (lv' := [(5, .int 1), (4, .int 1), (0, .ref (q 9)), (1, .int c1), (2, .int c2), (3, .int x1)]) hx hb dX1_add_52 hl (by decide) rfl (fun ls hl => ?_)
            refine lv_aload_n hx hb dX1_add_54 rfl (lv_at hl 2 rfl) ?_
            refine lv_iload hx hb dX1_add_55 (lv_at hl 0 rfl) ?_
            refine lv_if_ne (x := 1) (tgt := 64) hx hb dX1_add_57 (by decide) (fun _ => ?_) (fun k => absurd k (by decide))
            refine lv_aload_n hx hb dX1_add_64 rfl (lv_at hl 2 rfl) ?_
            refine va_get (D := D) (ci := 1) (v := .int (nI n)) hx hb hts hin hown hK hP 0 rfl rfl 4 (by decide) f46 (fun _ h9 => h9) rfl dX1_add_65 ?_
            refine lv_bipush (v := 16) hx hb dX1_add_68 (by decide) ?_
            refine lv_icmp_ne (x := (nI n)) (y := 16) (tgt := 77) hx hb dX1_add_70 (by decide) (fun c_70 => ?_) (fun c_70 => ?_)
            · have c_70 : ¬ n = 16 := fun e => c_70 (by rw [e]; rfl)
              refine lv_iconst (v := 0) hx hb dX1_add_77 (by decide) ?_
              refine wr_V (As := [.int 0]) (rest := []) (wr := []) ⟨hx, hb, hml, hown, hts⟩ (c_X1_goes l D q F n R th cI cZ _ 0) (cwV 1 hts gX1_add_X1_goes rfl rfl rfl (by decide +kernel) ⟨Nat.le_of_ble_eq_true rfl, Nat.le_of_ble_eq_true rfl⟩) hK hP hD hA [0, 1, 2, 3, 4, 5, 6, 7, 8, 9] [] rfl rfl (by decide) rfl (by decide) (by decide) (va_recv hK hP (ci := 1) (q0 := 0) rfl rfl) hS rfl hl.1 rfl (Nat.le_of_ble_eq_true rfl) dX1_add_78 ⟨Nat.le_of_ble_eq_true rfl, Nat.le_of_ble_eq_true rfl⟩ (fun r9 u9 H locs h_78 hP hD hS => ?_)
              have hP : va_P D vwCl (wM q F (nI n) R 0 cI cZ) H := hP
              have hD : va_D A (wM q F (nI n) R 0 cI cZ) := hD
              obtain rfl : r9 = 1 := h_78.trans (by decide)
              refine lv_if_ne (x := 1) (tgt := 86) hx hb dX1_add_81 (by decide) (fun _ => ?_) (fun k => absurd k (by decide))
              have hn16 : n < 16 := by have := hw.n; omega
              refine lv_aload_n hx hb dX1_add_86 rfl (lv_at hl 2 rfl) ?_
              refine va_get (D := D) (ci := 1) (v := .ref (q 4)) hx hb hts hin hown hK hP 0 rfl rfl 5 (by decide) f23 (fun _ h9 => h9) rfl dX1_add_87 ?_
              refine lv_aload_n hx hb dX1_add_90 rfl (lv_at hl 2 rfl) ?_
              refine va_get (D := D) (ci := 1) (v := .int (nI n)) hx hb hts hin hown hK hP 0 rfl rfl 4 (by decide) f46 (fun _ h9 => h9) rfl dX1_add_91 ?_
              refine lv_iload_n hx hb dX1_add_94 rfl (lv_at hl 3 rfl) ?_
              refine xiast hx hb hK hP hD hS 5 0 rfl rfl (g := n) (x := c1) (hn16) (by decide) dX1_add_95 (fun H locs hP hD hS => ?_)
              have hP : va_P D vwCl (wM q (uF F 4 (upd (F 4) n c1)) (nI n) R 0 cI cZ) H := hP
              have hD : va_D A (wM q (uF F 4 (upd (F 4) n c1)) (nI n) R 0 cI cZ) := hD
              refine lv_aload_n hx hb dX1_add_96 rfl (lv_at hl 2 rfl) ?_
              refine va_get (D := D) (ci := 1) (v := .ref (q 5)) hx hb hts hin hown hK hP 0 rfl rfl 6 (by decide) f26 (fun _ h9 => h9) rfl dX1_add_97 ?_
              refine lv_aload_n hx hb dX1_add_100 rfl (lv_at hl 2 rfl) ?_
              refine va_get (D := D) (ci := 1) (v := .int (nI n)) hx hb hts hin hown hK hP 0 rfl rfl 4 (by decide) f46 (fun _ h9 => h9) rfl dX1_add_101 ?_
              refine lv_iload_n hx hb dX1_add_104 rfl (lv_at hl 4 rfl) ?_
              refine xiast hx hb hK hP hD hS 6 0 rfl rfl (g := n) (x := c2) (hn16) (by decide) dX1_add_105 (fun H locs hP hD hS => ?_)
              have hP : va_P D vwCl (wM q (uF (uF F 4 (upd (F 4) n c1)) 5 (upd ((uF F 4 (upd (F 4) n c1)) 5) n c2)) (nI n) R 0 cI cZ) H := hP
              have hD : va_D A (wM q (uF (uF F 4 (upd (F 4) n c1)) 5 (upd ((uF F 4 (upd (F 4) n c1)) 5) n c2)) (nI n) R 0 cI cZ) := hD
              refine lv_aload_n hx hb dX1_add_106 rfl (lv_at hl 2 rfl) ?_
              refine va_get (D := D) (ci := 1) (v := .ref (q 6)) hx hb hts hin hown hK hP 0 rfl rfl 7 (by decide) f29 (fun _ h9 => h9) rfl dX1_add_107 ?_
              refine lv_aload_n hx hb dX1_add_110 rfl (lv_at hl 2 rfl) ?_
              refine va_get (D := D) (ci := 1) (v := .int (nI n)) hx hb hts hin hown hK hP 0 rfl rfl 4 (by decide) f46 (fun _ h9 => h9) rfl dX1_add_111 ?_
              refine lv_iload_n hx hb dX1_add_114 rfl (lv_at hl 5 rfl) ?_
              refine xiast hx hb hK hP hD hS 7 0 rfl rfl (g := n) (x := x1) (hn16) (by decide) dX1_add_115 (fun H locs hP hD hS => ?_)
              have hP : va_P D vwCl (wM q (uF (uF (uF F 4 (upd (F 4) n c1)) 5 (upd ((uF F 4 (upd (F 4) n c1)) 5) n c2)) 6 (upd ((uF (uF F 4 (upd (F 4) n c1)) 5 (upd ((uF F 4 (upd (F 4) n c1)) 5) n c2)) 6) n x1)) (nI n) R 0 cI cZ) H := hP
              have hD : va_D A (wM q (uF (uF (uF F 4 (upd (F 4) n c1)) 5 (upd ((uF F 4 (upd (F 4) n c1)) 5) n c2)) 6 (upd ((uF (uF F 4 (upd (F 4) n c1)) 5 (upd ((uF F 4 (upd (F 4) n c1)) 5) n c2)) 6) n x1)) (nI n) R 0 cI cZ) := hD
              refine lv_aload_n hx hb dX1_add_116 rfl (lv_at hl 2 rfl) ?_
              refine va_get (D := D) (ci := 1) (v := .ref (q 7)) hx hb hts hin hown hK hP 0 rfl rfl 8 (by decide) f32 (fun _ h9 => h9) rfl dX1_add_117 ?_
              refine lv_aload_n hx hb dX1_add_120 rfl (lv_at hl 2 rfl) ?_
              refine va_get (D := D) (ci := 1) (v := .int (nI n)) hx hb hts hin hown hK hP 0 rfl rfl 4 (by decide) f46 (fun _ h9 => h9) rfl dX1_add_121 ?_
              refine lv_iconst (v := (-1)) hx hb dX1_add_124 (by decide) ?_
              refine xiast hx hb hK hP hD hS 8 0 rfl rfl (g := n) (x := (-1)) (hn16) (by decide) dX1_add_125 (fun H locs hP hD hS => ?_)
              have hP : va_P D vwCl (wM q (uF (uF (uF (uF F 4 (upd (F 4) n c1)) 5 (upd ((uF F 4 (upd (F 4) n c1)) 5) n c2)) 6 (upd ((uF (uF F 4 (upd (F 4) n c1)) 5 (upd ((uF F 4 (upd (F 4) n c1)) 5) n c2)) 6) n x1)) 7 (upd ((uF (uF (uF F 4 (upd (F 4) n c1)) 5 (upd ((uF F 4 (upd (F 4) n c1)) 5) n c2)) 6 (upd ((uF (uF F 4 (upd (F 4) n c1)) 5 (upd ((uF F 4 (upd (F 4) n c1)) 5) n c2)) 6) n x1)) 7) n (-1))) (nI n) R 0 cI cZ) H := hP
              have hD : va_D A (wM q (uF (uF (uF (uF F 4 (upd (F 4) n c1)) 5 (upd ((uF F 4 (upd (F 4) n c1)) 5) n c2)) 6 (upd ((uF (uF F 4 (upd (F 4) n c1)) 5 (upd ((uF F 4 (upd (F 4) n c1)) 5) n c2)) 6) n x1)) 7 (upd ((uF (uF (uF F 4 (upd (F 4) n c1)) 5 (upd ((uF F 4 (upd (F 4) n c1)) 5) n c2)) 6 (upd ((uF (uF F 4 (upd (F 4) n c1)) 5 (upd ((uF F 4 (upd (F 4) n c1)) 5) n c2)) 6) n x1)) 7) n (-1))) (nI n) R 0 cI cZ) := hD
              refine lv_aload_n hx hb dX1_add_126 rfl (lv_at hl 2 rfl) ?_
              refine lv_dup hx hb dX1_add_127 rfl ?_
              refine va_get (D := D) (ci := 1) (v := .int (nI n)) hx hb hts hin hown hK hP 0 rfl rfl 4 (by decide) f46 (fun _ h9 => h9) rfl dX1_add_128 ?_
              refine lv_iconst (v := 1) hx hb dX1_add_131 (by decide) ?_
              refine lv_iadd hx hb (x := (nI n)) (y := 1) dX1_add_132 ?_
              refine W.eq (g2 := F0 m9 133 ls (.int (nI (n + 1)) :: [.ref (q 9)])) (congrArg (fun z => F0 m9 133 ls (Value.int z :: [.ref (q 9)])) (nI_1 n)) ?_
              refine va_put (D := D) (ci := 1) (v := .int (nI (n + 1))) (ty := .int) hx hb hts hin tyX1 tyX1_ok nmX1 hown hK hP hD hS 0 rfl rfl 4 (by decide) f46 (fun _ h9 => h9) rfl (by decide +kernel) rfl rfl (Nat.le_of_ble_eq_true rfl) dX1_add_133 (fun H locs hP hD hS => ?_)
              have hP : va_P D vwCl (wM q (uF (uF (uF (uF F 4 (upd (F 4) n c1)) 5 (upd ((uF F 4 (upd (F 4) n c1)) 5) n c2)) 6 (upd ((uF (uF F 4 (upd (F 4) n c1)) 5 (upd ((uF F 4 (upd (F 4) n c1)) 5) n c2)) 6) n x1)) 7 (upd ((uF (uF (uF F 4 (upd (F 4) n c1)) 5 (upd ((uF F 4 (upd (F 4) n c1)) 5) n c2)) 6 (upd ((uF (uF F 4 (upd (F 4) n c1)) 5 (upd ((uF F 4 (upd (F 4) n c1)) 5) n c2)) 6) n x1)) 7) n (-1))) (nI (n + 1)) R 0 cI cZ) H := hP
              have hD : va_D A (wM q (uF (uF (uF (uF F 4 (upd (F 4) n c1)) 5 (upd ((uF F 4 (upd (F 4) n c1)) 5) n c2)) 6 (upd ((uF (uF F 4 (upd (F 4) n c1)) 5 (upd ((uF F 4 (upd (F 4) n c1)) 5) n c2)) 6) n x1)) 7 (upd ((uF (uF (uF F 4 (upd (F 4) n c1)) 5 (upd ((uF F 4 (upd (F 4) n c1)) 5) n c2)) 6 (upd ((uF (uF F 4 (upd (F 4) n c1)) 5 (upd ((uF F 4 (upd (F 4) n c1)) 5) n c2)) 6) n x1)) 7) n (-1))) (nI (n + 1)) R 0 cI cZ) := hD
              refine lv_aload_n hx hb dX1_add_136 rfl (lv_at hl 2 rfl) ?_
              refine va_get (D := D) (ci := 1) (v := .int (nI (n + 1))) hx hb hts hin hown hK hP 0 rfl rfl 4 (by decide) f46 (fun _ h9 => h9) rfl dX1_add_137 ?_
              refine lv_iconst (v := 1) hx hb dX1_add_140 (by decide) ?_
              refine lv_isub hx hb (x := (nI (n + 1))) (y := 1) dX1_add_141 ?_
              refine W.eq (g2 := F0 m9 142 ls (.int (nI n) :: [])) (congrArg (fun z => F0 m9 142 ls (Value.int z :: [])) (nI_pred n)) ?_
              exact W.iret hx hb hr (fun t ht hW => ⟨⟨_, (0, (uF (uF (uF (uF F 4 (upd (F 4) n c1)) 5 (upd ((uF F 4 (upd (F 4) n c1)) 5) n c2)) 6 (upd ((uF (uF F 4 (upd (F 4) n c1)) 5 (upd ((uF F 4 (upd (F 4) n c1)) 5) n c2)) 6) n x1)) 7 (upd ((uF (uF (uF F 4 (upd (F 4) n c1)) 5 (upd ((uF F 4 (upd (F 4) n c1)) 5) n c2)) 6 (upd ((uF (uF F 4 (upd (F 4) n c1)) 5 (upd ((uF F 4 (upd (F 4) n c1)) 5) n c2)) 6) n x1)) 7) n (-1))), (n + 1)), rfl, (by show (0, (uF (uF (uF (uF F 4 (upd (F 4) n c1)) 5 (upd ((uF F 4 (upd (F 4) n c1)) 5) n c2)) 6 (upd ((uF (uF F 4 (upd (F 4) n c1)) 5 (upd ((uF F 4 (upd (F 4) n c1)) 5) n c2)) 6) n x1)) 7 (upd ((uF (uF (uF F 4 (upd (F 4) n c1)) 5 (upd ((uF F 4 (upd (F 4) n c1)) 5) n c2)) 6 (upd ((uF (uF F 4 (upd (F 4) n c1)) 5 (upd ((uF F 4 (upd (F 4) n c1)) 5) n c2)) 6) n x1)) 7) n (-1))), (n + 1)).1 = thAdd n c1 c2 x1 ∧ (thAdd n c1 c2 x1 = 0 → (nI n) = nI n ∧ (0, (uF (uF (uF (uF F 4 (upd (F 4) n c1)) 5 (upd ((uF F 4 (upd (F 4) n c1)) 5) n c2)) 6 (upd ((uF (uF F 4 (upd (F 4) n c1)) 5 (upd ((uF F 4 (upd (F 4) n c1)) 5) n c2)) 6) n x1)) 7 (upd ((uF (uF (uF F 4 (upd (F 4) n c1)) 5 (upd ((uF F 4 (upd (F 4) n c1)) 5) n c2)) 6 (upd ((uF (uF F 4 (upd (F 4) n c1)) 5 (upd ((uF F 4 (upd (F 4) n c1)) 5) n c2)) 6) n x1)) 7) n (-1))), (n + 1)).2.1 = fAdd F n c1 c2 x1 ∧ (0, (uF (uF (uF (uF F 4 (upd (F 4) n c1)) 5 (upd ((uF F 4 (upd (F 4) n c1)) 5) n c2)) 6 (upd ((uF (uF F 4 (upd (F 4) n c1)) 5 (upd ((uF F 4 (upd (F 4) n c1)) 5) n c2)) 6) n x1)) 7 (upd ((uF (uF (uF F 4 (upd (F 4) n c1)) 5 (upd ((uF F 4 (upd (F 4) n c1)) 5) n c2)) 6 (upd ((uF (uF F 4 (upd (F 4) n c1)) 5 (upd ((uF F 4 (upd (F 4) n c1)) 5) n c2)) 6) n x1)) 7) n (-1))), (n + 1)).2.2 = n + 1) ∧ (¬ thAdd n c1 c2 x1 = 0 → (0, (uF (uF (uF (uF F 4 (upd (F 4) n c1)) 5 (upd ((uF F 4 (upd (F 4) n c1)) 5) n c2)) 6 (upd ((uF (uF F 4 (upd (F 4) n c1)) 5 (upd ((uF F 4 (upd (F 4) n c1)) 5) n c2)) 6) n x1)) 7 (upd ((uF (uF (uF F 4 (upd (F 4) n c1)) 5 (upd ((uF F 4 (upd (F 4) n c1)) 5) n c2)) 6 (upd ((uF (uF F 4 (upd (F 4) n c1)) 5 (upd ((uF F 4 (upd (F 4) n c1)) 5) n c2)) 6) n x1)) 7) n (-1))), (n + 1)).2.1 = F ∧ (0, (uF (uF (uF (uF F 4 (upd (F 4) n c1)) 5 (upd ((uF F 4 (upd (F 4) n c1)) 5) n c2)) 6 (upd ((uF (uF F 4 (upd (F 4) n c1)) 5 (upd ((uF F 4 (upd (F 4) n c1)) 5) n c2)) 6) n x1)) 7 (upd ((uF (uF (uF F 4 (upd (F 4) n c1)) 5 (upd ((uF F 4 (upd (F 4) n c1)) 5) n c2)) 6 (upd ((uF (uF F 4 (upd (F 4) n c1)) 5 (upd ((uF F 4 (upd (F 4) n c1)) 5) n c2)) 6) n x1)) 7) n (-1))), (n + 1)).2.2 = n); have e9 : thAdd n c1 c2 x1 = 0 := (by simp [thAdd, subOk, eq_false c_2, c_9, eq_false c_14, c_28, c_44, eq_false c_70]); exact ⟨e9.symm, fun _ => ⟨rfl, rfl, rfl⟩, fun h9 => absurd e9 h9⟩), by rw [ht]; exact hP, hD⟩, hS.F ht⟩) hS.2.2 dX1_add_142
            · have c_70 : n = 16 := (nI_eq (b := 16) (by have := hw.n; omega) (by decide)).mp c_70
              refine lv_iconst (v := 2) hx hb dX1_add_73 (by decide) ?_
              refine lv_goto (tgt := 78) hx hb dX1_add_74 (by decide) ?_
              refine wr_V (As := [.int 2]) (rest := []) (wr := []) ⟨hx, hb, hml, hown, hts⟩ (c_X1_goes l D q F n R th cI cZ _ 2) (cwV 1 hts gX1_add_X1_goes rfl rfl rfl (by decide +kernel) ⟨Nat.le_of_ble_eq_true rfl, Nat.le_of_ble_eq_true rfl⟩) hK hP hD hA [0, 1, 2, 3, 4, 5, 6, 7, 8, 9] [] rfl rfl (by decide) rfl (by decide) (by decide) (va_recv hK hP (ci := 1) (q0 := 0) rfl rfl) hS rfl hl.1 rfl (Nat.le_of_ble_eq_true rfl) dX1_add_78 ⟨Nat.le_of_ble_eq_true rfl, Nat.le_of_ble_eq_true rfl⟩ (fun r9 u9 H locs h_78 hP hD hS => ?_)
              have hP : va_P D vwCl (wM q F (nI n) R 2 cI cZ) H := hP
              have hD : va_D A (wM q F (nI n) R 2 cI cZ) := hD
              obtain rfl : r9 = 0 := h_78.trans (by decide)
              refine lv_if_ne (x := 0) (tgt := 86) hx hb dX1_add_81 (by decide) (fun k => absurd (by decide) k) (fun _ => ?_)
              refine lv_iconst (v := 0) hx hb dX1_add_84 (by decide) ?_
              exact W.iret hx hb hr (fun t ht hW => ⟨⟨_, (2, F, n), rfl, (by show (2, F, n).1 = thAdd n c1 c2 x1 ∧ (thAdd n c1 c2 x1 = 0 → 0 = nI n ∧ (2, F, n).2.1 = fAdd F n c1 c2 x1 ∧ (2, F, n).2.2 = n + 1) ∧ (¬ thAdd n c1 c2 x1 = 0 → (2, F, n).2.1 = F ∧ (2, F, n).2.2 = n); have e9 : thAdd n c1 c2 x1 = 2 := (by simp [thAdd, subOk, eq_false c_2, c_9, eq_false c_14, c_28, c_44, eq_true c_70]); exact ⟨e9.symm, fun h9 => absurd (e9.symm.trans h9) (by decide), fun _ => ⟨rfl, rfl⟩⟩), by rw [ht]; exact hP, hD⟩, hS.F ht⟩) hS.2.2 dX1_add_85
set_option maxHeartbeats 4000000 in
set_option maxRecDepth 100000 in
theorem c_X1_setQuantity (l : Launch) (D : va_G) (q : Nat → Nat) (F : Nat → Nat → Int32) (n : Nat) (R : Nat → Int32) (th : Int32) (cI cZ : ClassId) (sz : Nat) (v : Int32) (x1 : Int32) (hw : WF F n) : Met l yX1_setQuantity wsX1_setQuantity ({ frames := 2, cells := 0, slots := 0, locals := 43 }) (va_Pc [.ref (q 9), .int v, .int x1] (wS D (wM q F (nI n) R th cI cZ) (tIZ cI cZ) sz)) (va_Qi (fun (r : Int32) (u : Int32 × (Nat → Nat → Int32)) => u.1 = thQ n v x1 ∧ (thQ n v x1 = 0 → r = F 6 (gi v) ∧ u.2 = fQ F (gi v) x1) ∧ (¬ thQ n v x1 = 0 → u.2 = F)) (wB D (va_A (wM q F (nI n) R th cI cZ) sz) (fun (u : Int32 × (Nat → Nat → Int32)) => wM q u.2 (nI n) R u.1 cI cZ)) (va_A (wM q F (nI n) R th cI cZ) sz)) 0 0 (va_A (wM q F (nI n) R th cI cZ) sz) := by
  refine wr_of (own := RX1) (cc := cX1_setQuantity) (maxL := 4) (ret := (some .int)) (by decide) rfl rfl (Nat.le_of_ble_eq_true rfl) ?_
  intro p9 e9 s m9 a9 below meth c9 ls A hx hb hr hml hlocks hown hts hP hK hD hA hl
  have hin : ∀ w ∈ wsX10, w ∈ wsX1_setQuantity := by decide +kernel
  have f29 := hts (.fieldLink RX1 29 "DangerousGoodsModel" "quantities" "[I") (by decide +kernel)
  have hS : va_S A s.heap s.heap [] := va_S.rf
  have hl : lv_has ls 4 [(0, .ref (q 9)), (1, .int v), (2, .int x1)] := hl
  refine lv_aload_n hx hb dX1_setQuantity_0 rfl (lv_at hl 0 rfl) ?_
  refine lv_aload_n hx hb dX1_setQuantity_1 rfl (lv_at hl 0 rfl) ?_
  refine lv_iload_n hx hb dX1_setQuantity_2 rfl (lv_at hl 1 rfl) ?_
  refine ro_V (As := [.int v]) (rest := [.ref (q 9)]) ⟨hx, hb, hml, hown, hts⟩ (c_X1_areGoods l D q F n R th cI cZ v) (cwV 1 hts gX1_setQuantity_X1_areGoods rfl rfl rfl (by decide +kernel) ⟨Nat.le_of_ble_eq_true rfl, Nat.le_of_ble_eq_true rfl⟩) hK hP hP (va_recv hK hP (ci := 1) (q0 := 0) rfl rfl) hS rfl hl.1 rfl (Nat.le_of_ble_eq_true rfl) dX1_setQuantity_3 ⟨Nat.le_of_ble_eq_true rfl, Nat.le_of_ble_eq_true rfl⟩ (fun r H locs hr9 hP hS => ?_)
  subst hr9
  refine lv_if_ne (x := (bi (mIn v 0 (nI n - 1)))) (tgt := 13) hx hb dX1_setQuantity_6 (by decide) (fun c_6 => ?_) (fun c_6 => ?_)
  · have c_6 := bi_n0.mp c_6
    refine lv_iload_n hx hb dX1_setQuantity_13 rfl (lv_at hl 2 rfl) ?_
    refine lv_iconst (v := 1) hx hb dX1_setQuantity_14 (by decide) ?_
    refine lv_sipush (v := 10000) hx hb dX1_setQuantity_15 (by decide) ?_
    refine ro_S (As := [.int x1, .int 1, .int 10000]) (rest := [.ref (q 9)]) ⟨hx, hb, hml, hown, hts⟩ (c_X1_isIn l x1 1 10000) (va_cwS 3 hts gX1_setQuantity_X1_isIn rfl rfl rfl (by decide +kernel) ⟨Nat.le_of_ble_eq_true rfl, Nat.le_of_ble_eq_true rfl⟩) hP hS rfl hl.1 rfl (Nat.le_of_ble_eq_true rfl) dX1_setQuantity_18 ⟨Nat.le_of_ble_eq_true rfl, Nat.le_of_ble_eq_true rfl⟩ (fun r H locs hr9 hP hS => ?_)
    subst hr9
    refine lv_if_eq (x := (bi (mIn x1 1 10000))) (tgt := 28) hx hb dX1_setQuantity_21 (by decide) (fun c_21 => ?_) (fun c_21 => ?_)
    · have c_21 := bi_e0.mp c_21
      refine lv_iconst (v := 2) hx hb dX1_setQuantity_28 (by decide) ?_
      refine wr_V (As := [.int 2]) (rest := []) (wr := []) ⟨hx, hb, hml, hown, hts⟩ (c_X1_goes l D q F n R th cI cZ _ 2) (cwV 1 hts gX1_setQuantity_X1_goes rfl rfl rfl (by decide +kernel) ⟨Nat.le_of_ble_eq_true rfl, Nat.le_of_ble_eq_true rfl⟩) hK hP hD hA [0, 1, 2, 3, 4, 5, 6, 7, 8, 9] [] rfl rfl (by decide) rfl (by decide) (by decide) (va_recv hK hP (ci := 1) (q0 := 0) rfl rfl) hS rfl hl.1 rfl (Nat.le_of_ble_eq_true rfl) dX1_setQuantity_29 ⟨Nat.le_of_ble_eq_true rfl, Nat.le_of_ble_eq_true rfl⟩ (fun r9 u9 H locs h_29 hP hD hS => ?_)
      have hP : va_P D vwCl (wM q F (nI n) R 2 cI cZ) H := hP
      have hD : va_D A (wM q F (nI n) R 2 cI cZ) := hD
      obtain rfl : r9 = 0 := h_29.trans (by decide)
      refine lv_if_ne (x := 0) (tgt := 37) hx hb dX1_setQuantity_32 (by decide) (fun k => absurd (by decide) k) (fun _ => ?_)
      refine lv_iconst (v := 0) hx hb dX1_setQuantity_35 (by decide) ?_
      exact W.iret hx hb hr (fun t ht hW => ⟨⟨_, (2, F), rfl, (by show (2, F).1 = thQ n v x1 ∧ (thQ n v x1 = 0 → 0 = F 6 (gi v) ∧ (2, F).2 = fQ F (gi v) x1) ∧ (¬ thQ n v x1 = 0 → (2, F).2 = F); have e9 : thQ n v x1 = 2 := (by simp [thQ, c_6, c_21]); exact ⟨e9.symm, fun h9 => absurd (e9.symm.trans h9) (by decide), fun _ => rfl⟩), by rw [ht]; exact hP, hD⟩, hS.F ht⟩) hS.2.2 dX1_setQuantity_36
    · have c_21 := bi_n0.mp c_21
      refine lv_iconst (v := 0) hx hb dX1_setQuantity_24 (by decide) ?_
      refine lv_goto (tgt := 29) hx hb dX1_setQuantity_25 (by decide) ?_
      refine wr_V (As := [.int 0]) (rest := []) (wr := []) ⟨hx, hb, hml, hown, hts⟩ (c_X1_goes l D q F n R th cI cZ _ 0) (cwV 1 hts gX1_setQuantity_X1_goes rfl rfl rfl (by decide +kernel) ⟨Nat.le_of_ble_eq_true rfl, Nat.le_of_ble_eq_true rfl⟩) hK hP hD hA [0, 1, 2, 3, 4, 5, 6, 7, 8, 9] [] rfl rfl (by decide) rfl (by decide) (by decide) (va_recv hK hP (ci := 1) (q0 := 0) rfl rfl) hS rfl hl.1 rfl (Nat.le_of_ble_eq_true rfl) dX1_setQuantity_29 ⟨Nat.le_of_ble_eq_true rfl, Nat.le_of_ble_eq_true rfl⟩ (fun r9 u9 H locs h_29 hP hD hS => ?_)
      have hP : va_P D vwCl (wM q F (nI n) R 0 cI cZ) H := hP
      have hD : va_D A (wM q F (nI n) R 0 cI cZ) := hD
      obtain rfl : r9 = 1 := h_29.trans (by decide)
      refine lv_if_ne (x := 1) (tgt := 37) hx hb dX1_setQuantity_32 (by decide) (fun _ => ?_) (fun k => absurd k (by decide))
      obtain ⟨g, hg, ev⟩ := (gd_iff hw.n).mp c_6
      have eg : gi v = g := by rw [ev]; exact gi_nI (by have := hw.n; omega)
      rw [ev] at hl
      refine lv_aload_n hx hb dX1_setQuantity_37 rfl (lv_at hl 0 rfl) ?_
      refine va_get (D := D) (ci := 1) (v := .ref (q 6)) hx hb hts hin hown hK hP 0 rfl rfl 7 (by decide) f29 (fun _ h9 => h9) rfl dX1_setQuantity_38 ?_
      refine lv_iload_n hx hb dX1_setQuantity_41 rfl (lv_at hl 1 rfl) ?_
      refine xiald hx hb hK hP 7 0 rfl rfl (g := g) (hw.g hg) (by decide) dX1_setQuantity_42 ?_
      refine lv_istore_n (lv' := [(3, .int (F 6 g)), (0, .ref (q 9)), (1, .int (nI g)), (2, .int x1)]) hx hb dX1_setQuantity_43 rfl hl (by decide) rfl (fun ls hl => ?_)
      refine lv_aload_n hx hb dX1_setQuantity_44 rfl (lv_at hl 1 rfl) ?_
      refine va_get (D := D) (ci := 1) (v := .ref (q 6)) hx hb hts hin hown hK hP 0 rfl rfl 7 (by decide) f29 (fun _ h9 => h9) rfl dX1_setQuantity_45 ?_
      refine lv_iload_n hx hb dX1_setQuantity_48 rfl (lv_at hl 2 rfl) ?_
      refine lv_iload_n hx hb dX1_setQuantity_49 rfl (lv_at hl 3 rfl) ?_
      refine xiast hx hb hK hP hD hS 7 0 rfl rfl (g := g) (x := x1) (hw.g hg) (by decide) dX1_setQuantity_50 (fun H locs hP hD hS => ?_)
      have hP : va_P D vwCl (wM q (uF F 6 (upd (F 6) g x1)) (nI n) R 0 cI cZ) H := hP
      have hD : va_D A (wM q (uF F 6 (upd (F 6) g x1)) (nI n) R 0 cI cZ) := hD
      refine lv_iload_n hx hb dX1_setQuantity_51 rfl (lv_at hl 0 rfl) ?_
      exact W.iret hx hb hr (fun t ht hW => ⟨⟨_, (0, (uF F 6 (upd (F 6) g x1))), rfl, (by show (0, (uF F 6 (upd (F 6) g x1))).1 = thQ n v x1 ∧ (thQ n v x1 = 0 → (F 6 g) = F 6 (gi v) ∧ (0, (uF F 6 (upd (F 6) g x1))).2 = fQ F (gi v) x1) ∧ (¬ thQ n v x1 = 0 → (0, (uF F 6 (upd (F 6) g x1))).2 = F); have e9 : thQ n v x1 = 0 := (by simp [thQ, c_6, c_21]); exact ⟨e9.symm, fun _ => by rw [eg]; exact ⟨rfl, rfl⟩, fun h9 => absurd e9 h9⟩), by rw [ht]; exact hP, hD⟩, hS.F ht⟩) hS.2.2 dX1_setQuantity_52
  · have c_6 := bi_e0.mp c_6
    refine lv_iconst (v := 1) hx hb dX1_setQuantity_9 (by decide) ?_
    refine lv_goto (tgt := 29) hx hb dX1_setQuantity_10 (by decide) ?_
    refine wr_V (As := [.int 1]) (rest := []) (wr := []) ⟨hx, hb, hml, hown, hts⟩ (c_X1_goes l D q F n R th cI cZ _ 1) (cwV 1 hts gX1_setQuantity_X1_goes rfl rfl rfl (by decide +kernel) ⟨Nat.le_of_ble_eq_true rfl, Nat.le_of_ble_eq_true rfl⟩) hK hP hD hA [0, 1, 2, 3, 4, 5, 6, 7, 8, 9] [] rfl rfl (by decide) rfl (by decide) (by decide) (va_recv hK hP (ci := 1) (q0 := 0) rfl rfl) hS rfl hl.1 rfl (Nat.le_of_ble_eq_true rfl) dX1_setQuantity_29 ⟨Nat.le_of_ble_eq_true rfl, Nat.le_of_ble_eq_true rfl⟩ (fun r9 u9 H locs h_29 hP hD hS => ?_)
    have hP : va_P D vwCl (wM q F (nI n) R 1 cI cZ) H := hP
    have hD : va_D A (wM q F (nI n) R 1 cI cZ) := hD
    obtain rfl : r9 = 0 := h_29.trans (by decide)
    refine lv_if_ne (x := 0) (tgt := 37) hx hb dX1_setQuantity_32 (by decide) (fun k => absurd (by decide) k) (fun _ => ?_)
    refine lv_iconst (v := 0) hx hb dX1_setQuantity_35 (by decide) ?_
    exact W.iret hx hb hr (fun t ht hW => ⟨⟨_, (1, F), rfl, (by show (1, F).1 = thQ n v x1 ∧ (thQ n v x1 = 0 → 0 = F 6 (gi v) ∧ (1, F).2 = fQ F (gi v) x1) ∧ (¬ thQ n v x1 = 0 → (1, F).2 = F); have e9 : thQ n v x1 = 1 := (by simp [thQ, c_6]); exact ⟨e9.symm, fun h9 => absurd (e9.symm.trans h9) (by decide), fun _ => rfl⟩), by rw [ht]; exact hP, hD⟩, hS.F ht⟩) hS.2.2 dX1_setQuantity_36
set_option maxHeartbeats 4000000 in
set_option maxRecDepth 100000 in
theorem c_X1_put (l : Launch) (D : va_G) (q : Nat → Nat) (F : Nat → Nat → Int32) (n : Nat) (R : Nat → Int32) (th : Int32) (cI cZ : ClassId) (sz : Nat) (v : Int32) (x1 : Int32) (hw : WF F n) : Met l yX1_put wsX1_put ({ frames := 2, cells := 0, slots := 0, locals := 43 }) (va_Pc [.ref (q 9), .int v, .int x1] (wS D (wM q F (nI n) R th cI cZ) (tIZ cI cZ) sz)) (va_Qi (fun (r : Int32) (u : Int32 × (Nat → Nat → Int32)) => u.1 = thP n v x1 ∧ (thP n v x1 = 0 → r = F 7 (gi v) ∧ u.2 = fP F (gi v) x1) ∧ (¬ thP n v x1 = 0 → u.2 = F)) (wB D (va_A (wM q F (nI n) R th cI cZ) sz) (fun (u : Int32 × (Nat → Nat → Int32)) => wM q u.2 (nI n) R u.1 cI cZ)) (va_A (wM q F (nI n) R th cI cZ) sz)) 0 0 (va_A (wM q F (nI n) R th cI cZ) sz) := by
  refine wr_of (own := RX1) (cc := cX1_put) (maxL := 4) (ret := (some .int)) (by decide) rfl rfl (Nat.le_of_ble_eq_true rfl) ?_
  intro p9 e9 s m9 a9 below meth c9 ls A hx hb hr hml hlocks hown hts hP hK hD hA hl
  have hin : ∀ w ∈ wsX10, w ∈ wsX1_put := by decide +kernel
  have f32 := hts (.fieldLink RX1 32 "DangerousGoodsModel" "places" "[I") (by decide +kernel)
  have hS : va_S A s.heap s.heap [] := va_S.rf
  have hl : lv_has ls 4 [(0, .ref (q 9)), (1, .int v), (2, .int x1)] := hl
  refine lv_aload_n hx hb dX1_put_0 rfl (lv_at hl 0 rfl) ?_
  refine lv_aload_n hx hb dX1_put_1 rfl (lv_at hl 0 rfl) ?_
  refine lv_iload_n hx hb dX1_put_2 rfl (lv_at hl 1 rfl) ?_
  refine ro_V (As := [.int v]) (rest := [.ref (q 9)]) ⟨hx, hb, hml, hown, hts⟩ (c_X1_areGoods l D q F n R th cI cZ v) (cwV 1 hts gX1_put_X1_areGoods rfl rfl rfl (by decide +kernel) ⟨Nat.le_of_ble_eq_true rfl, Nat.le_of_ble_eq_true rfl⟩) hK hP hP (va_recv hK hP (ci := 1) (q0 := 0) rfl rfl) hS rfl hl.1 rfl (Nat.le_of_ble_eq_true rfl) dX1_put_3 ⟨Nat.le_of_ble_eq_true rfl, Nat.le_of_ble_eq_true rfl⟩ (fun r H locs hr9 hP hS => ?_)
  subst hr9
  refine lv_if_ne (x := (bi (mIn v 0 (nI n - 1)))) (tgt := 13) hx hb dX1_put_6 (by decide) (fun c_6 => ?_) (fun c_6 => ?_)
  · have c_6 := bi_n0.mp c_6
    refine lv_iload_n hx hb dX1_put_13 rfl (lv_at hl 2 rfl) ?_
    refine lv_iconst (v := (-1)) hx hb dX1_put_14 (by decide) ?_
    refine lv_icmp_eq (x := x1) (y := (-1)) (tgt := 25) hx hb dX1_put_15 (by decide) (fun c_15 => ?_) (fun c_15 => ?_)
    · skip
      refine lv_iconst (v := 0) hx hb dX1_put_25 (by decide) ?_
      refine lv_goto (tgt := 30) hx hb dX1_put_26 (by decide) ?_
      refine wr_V (As := [.int 0]) (rest := []) (wr := []) ⟨hx, hb, hml, hown, hts⟩ (c_X1_goes l D q F n R th cI cZ _ 0) (cwV 1 hts gX1_put_X1_goes rfl rfl rfl (by decide +kernel) ⟨Nat.le_of_ble_eq_true rfl, Nat.le_of_ble_eq_true rfl⟩) hK hP hD hA [0, 1, 2, 3, 4, 5, 6, 7, 8, 9] [] rfl rfl (by decide) rfl (by decide) (by decide) (va_recv hK hP (ci := 1) (q0 := 0) rfl rfl) hS rfl hl.1 rfl (Nat.le_of_ble_eq_true rfl) dX1_put_30 ⟨Nat.le_of_ble_eq_true rfl, Nat.le_of_ble_eq_true rfl⟩ (fun r9 u9 H locs h_30 hP hD hS => ?_)
      have hP : va_P D vwCl (wM q F (nI n) R 0 cI cZ) H := hP
      have hD : va_D A (wM q F (nI n) R 0 cI cZ) := hD
      obtain rfl : r9 = 1 := h_30.trans (by decide)
      refine lv_if_ne (x := 1) (tgt := 38) hx hb dX1_put_33 (by decide) (fun _ => ?_) (fun k => absurd k (by decide))
      obtain ⟨g, hg, ev⟩ := (gd_iff hw.n).mp c_6
      have eg : gi v = g := by rw [ev]; exact gi_nI (by have := hw.n; omega)
      rw [ev] at hl
      refine lv_aload_n hx hb dX1_put_38 rfl (lv_at hl 0 rfl) ?_
      refine va_get (D := D) (ci := 1) (v := .ref (q 7)) hx hb hts hin hown hK hP 0 rfl rfl 8 (by decide) f32 (fun _ h9 => h9) rfl dX1_put_39 ?_
      refine lv_iload_n hx hb dX1_put_42 rfl (lv_at hl 1 rfl) ?_
      refine xiald hx hb hK hP 8 0 rfl rfl (g := g) (hw.g hg) (by decide) dX1_put_43 ?_
      refine lv_istore_n (lv' := [(3, .int (F 7 g)), (0, .ref (q 9)), (1, .int (nI g)), (2, .int x1)]) hx hb dX1_put_44 rfl hl (by decide) rfl (fun ls hl => ?_)
      refine lv_aload_n hx hb dX1_put_45 rfl (lv_at hl 1 rfl) ?_
      refine va_get (D := D) (ci := 1) (v := .ref (q 7)) hx hb hts hin hown hK hP 0 rfl rfl 8 (by decide) f32 (fun _ h9 => h9) rfl dX1_put_46 ?_
      refine lv_iload_n hx hb dX1_put_49 rfl (lv_at hl 2 rfl) ?_
      refine lv_iload_n hx hb dX1_put_50 rfl (lv_at hl 3 rfl) ?_
      refine xiast hx hb hK hP hD hS 8 0 rfl rfl (g := g) (x := x1) (hw.g hg) (by decide) dX1_put_51 (fun H locs hP hD hS => ?_)
      have hP : va_P D vwCl (wM q (uF F 7 (upd (F 7) g x1)) (nI n) R 0 cI cZ) H := hP
      have hD : va_D A (wM q (uF F 7 (upd (F 7) g x1)) (nI n) R 0 cI cZ) := hD
      refine lv_iload_n hx hb dX1_put_52 rfl (lv_at hl 0 rfl) ?_
      exact W.iret hx hb hr (fun t ht hW => ⟨⟨_, (0, (uF F 7 (upd (F 7) g x1))), rfl, (by show (0, (uF F 7 (upd (F 7) g x1))).1 = thP n v x1 ∧ (thP n v x1 = 0 → (F 7 g) = F 7 (gi v) ∧ (0, (uF F 7 (upd (F 7) g x1))).2 = fP F (gi v) x1) ∧ (¬ thP n v x1 = 0 → (0, (uF F 7 (upd (F 7) g x1))).2 = F); have e9 : thP n v x1 = 0 := (by simp [thP, c_6, eq_true c_15]); exact ⟨e9.symm, fun _ => by rw [eg]; exact ⟨rfl, rfl⟩, fun h9 => absurd e9 h9⟩), by rw [ht]; exact hP, hD⟩, hS.F ht⟩) hS.2.2 dX1_put_53
    · skip
      refine lv_iload_n hx hb dX1_put_18 rfl (lv_at hl 2 rfl) ?_
      refine ro_S (As := [.int x1]) (rest := [.ref (q 9)]) ⟨hx, hb, hml, hown, hts⟩ (c_X1_isPlace l x1) (va_cwS 1 hts gX1_put_X1_isPlace rfl rfl rfl (by decide +kernel) ⟨Nat.le_of_ble_eq_true rfl, Nat.le_of_ble_eq_true rfl⟩) hP hS rfl hl.1 rfl (Nat.le_of_ble_eq_true rfl) dX1_put_19 ⟨Nat.le_of_ble_eq_true rfl, Nat.le_of_ble_eq_true rfl⟩ (fun r H locs hr9 hP hS => ?_)
      subst hr9
      refine lv_if_eq (x := (bi (mIn x1 0 47))) (tgt := 29) hx hb dX1_put_22 (by decide) (fun c_22 => ?_) (fun c_22 => ?_)
      · have c_22 := bi_e0.mp c_22
        refine lv_iconst (v := 2) hx hb dX1_put_29 (by decide) ?_
        refine wr_V (As := [.int 2]) (rest := []) (wr := []) ⟨hx, hb, hml, hown, hts⟩ (c_X1_goes l D q F n R th cI cZ _ 2) (cwV 1 hts gX1_put_X1_goes rfl rfl rfl (by decide +kernel) ⟨Nat.le_of_ble_eq_true rfl, Nat.le_of_ble_eq_true rfl⟩) hK hP hD hA [0, 1, 2, 3, 4, 5, 6, 7, 8, 9] [] rfl rfl (by decide) rfl (by decide) (by decide) (va_recv hK hP (ci := 1) (q0 := 0) rfl rfl) hS rfl hl.1 rfl (Nat.le_of_ble_eq_true rfl) dX1_put_30 ⟨Nat.le_of_ble_eq_true rfl, Nat.le_of_ble_eq_true rfl⟩ (fun r9 u9 H locs h_30 hP hD hS => ?_)
        have hP : va_P D vwCl (wM q F (nI n) R 2 cI cZ) H := hP
        have hD : va_D A (wM q F (nI n) R 2 cI cZ) := hD
        obtain rfl : r9 = 0 := h_30.trans (by decide)
        refine lv_if_ne (x := 0) (tgt := 38) hx hb dX1_put_33 (by decide) (fun k => absurd (by decide) k) (fun _ => ?_)
        refine lv_iconst (v := 0) hx hb dX1_put_36 (by decide) ?_
        exact W.iret hx hb hr (fun t ht hW => ⟨⟨_, (2, F), rfl, (by show (2, F).1 = thP n v x1 ∧ (thP n v x1 = 0 → 0 = F 7 (gi v) ∧ (2, F).2 = fP F (gi v) x1) ∧ (¬ thP n v x1 = 0 → (2, F).2 = F); have e9 : thP n v x1 = 2 := (by simp [thP, c_6, eq_false c_15, c_22]); exact ⟨e9.symm, fun h9 => absurd (e9.symm.trans h9) (by decide), fun _ => rfl⟩), by rw [ht]; exact hP, hD⟩, hS.F ht⟩) hS.2.2 dX1_put_37
      · have c_22 := bi_n0.mp c_22
        refine lv_iconst (v := 0) hx hb dX1_put_25 (by decide) ?_
        refine lv_goto (tgt := 30) hx hb dX1_put_26 (by decide) ?_
        refine wr_V (As := [.int 0]) (rest := []) (wr := []) ⟨hx, hb, hml, hown, hts⟩ (c_X1_goes l D q F n R th cI cZ _ 0) (cwV 1 hts gX1_put_X1_goes rfl rfl rfl (by decide +kernel) ⟨Nat.le_of_ble_eq_true rfl, Nat.le_of_ble_eq_true rfl⟩) hK hP hD hA [0, 1, 2, 3, 4, 5, 6, 7, 8, 9] [] rfl rfl (by decide) rfl (by decide) (by decide) (va_recv hK hP (ci := 1) (q0 := 0) rfl rfl) hS rfl hl.1 rfl (Nat.le_of_ble_eq_true rfl) dX1_put_30 ⟨Nat.le_of_ble_eq_true rfl, Nat.le_of_ble_eq_true rfl⟩ (fun r9 u9 H locs h_30 hP hD hS => ?_)
        have hP : va_P D vwCl (wM q F (nI n) R 0 cI cZ) H := hP
        have hD : va_D A (wM q F (nI n) R 0 cI cZ) := hD
        obtain rfl : r9 = 1 := h_30.trans (by decide)
        refine lv_if_ne (x := 1) (tgt := 38) hx hb dX1_put_33 (by decide) (fun _ => ?_) (fun k => absurd k (by decide))
        obtain ⟨g, hg, ev⟩ := (gd_iff hw.n).mp c_6
        have eg : gi v = g := by rw [ev]; exact gi_nI (by have := hw.n; omega)
        rw [ev] at hl
        refine lv_aload_n hx hb dX1_put_38 rfl (lv_at hl 0 rfl) ?_
        refine va_get (D := D) (ci := 1) (v := .ref (q 7)) hx hb hts hin hown hK hP 0 rfl rfl 8 (by decide) f32 (fun _ h9 => h9) rfl dX1_put_39 ?_
        refine lv_iload_n hx hb dX1_put_42 rfl (lv_at hl 1 rfl) ?_
        refine xiald hx hb hK hP 8 0 rfl rfl (g := g) (hw.g hg) (by decide) dX1_put_43 ?_
        refine lv_istore_n (lv' := [(3, .int (F 7 g)), (0, .ref (q 9)), (1, .int (nI g)), (2, .int x1)]) hx hb dX1_put_44 rfl hl (by decide) rfl (fun ls hl => ?_)
        refine lv_aload_n hx hb dX1_put_45 rfl (lv_at hl 1 rfl) ?_
        refine va_get (D := D) (ci := 1) (v := .ref (q 7)) hx hb hts hin hown hK hP 0 rfl rfl 8 (by decide) f32 (fun _ h9 => h9) rfl dX1_put_46 ?_
        refine lv_iload_n hx hb dX1_put_49 rfl (lv_at hl 2 rfl) ?_
        refine lv_iload_n hx hb dX1_put_50 rfl (lv_at hl 3 rfl) ?_
        refine xiast hx hb hK hP hD hS 8 0 rfl rfl (g := g) (x := x1) (hw.g hg) (by decide) dX1_put_51 (fun H locs hP hD hS => ?_)
        have hP : va_P D vwCl (wM q (uF F 7 (upd (F 7) g x1)) (nI n) R 0 cI cZ) H := hP
        have hD : va_D A (wM q (uF F 7 (upd (F 7) g x1)) (nI n) R 0 cI cZ) := hD
        refine lv_iload_n hx hb dX1_put_52 rfl (lv_at hl 0 rfl) ?_
        exact W.iret hx hb hr (fun t ht hW => ⟨⟨_, (0, (uF F 7 (upd (F 7) g x1))), rfl, (by show (0, (uF F 7 (upd (F 7) g x1))).1 = thP n v x1 ∧ (thP n v x1 = 0 → (F 7 g) = F 7 (gi v) ∧ (0, (uF F 7 (upd (F 7) g x1))).2 = fP F (gi v) x1) ∧ (¬ thP n v x1 = 0 → (0, (uF F 7 (upd (F 7) g x1))).2 = F); have e9 : thP n v x1 = 0 := (by simp [thP, c_6, eq_false c_15, c_22]); exact ⟨e9.symm, fun _ => by rw [eg]; exact ⟨rfl, rfl⟩, fun h9 => absurd e9 h9⟩), by rw [ht]; exact hP, hD⟩, hS.F ht⟩) hS.2.2 dX1_put_53
  · have c_6 := bi_e0.mp c_6
    refine lv_iconst (v := 1) hx hb dX1_put_9 (by decide) ?_
    refine lv_goto (tgt := 30) hx hb dX1_put_10 (by decide) ?_
    refine wr_V (As := [.int 1]) (rest := []) (wr := []) ⟨hx, hb, hml, hown, hts⟩ (c_X1_goes l D q F n R th cI cZ _ 1) (cwV 1 hts gX1_put_X1_goes rfl rfl rfl (by decide +kernel) ⟨Nat.le_of_ble_eq_true rfl, Nat.le_of_ble_eq_true rfl⟩) hK hP hD hA [0, 1, 2, 3, 4, 5, 6, 7, 8, 9] [] rfl rfl (by decide) rfl (by decide) (by decide) (va_recv hK hP (ci := 1) (q0 := 0) rfl rfl) hS rfl hl.1 rfl (Nat.le_of_ble_eq_true rfl) dX1_put_30 ⟨Nat.le_of_ble_eq_true rfl, Nat.le_of_ble_eq_true rfl⟩ (fun r9 u9 H locs h_30 hP hD hS => ?_)
    have hP : va_P D vwCl (wM q F (nI n) R 1 cI cZ) H := hP
    have hD : va_D A (wM q F (nI n) R 1 cI cZ) := hD
    obtain rfl : r9 = 0 := h_30.trans (by decide)
    refine lv_if_ne (x := 0) (tgt := 38) hx hb dX1_put_33 (by decide) (fun k => absurd (by decide) k) (fun _ => ?_)
    refine lv_iconst (v := 0) hx hb dX1_put_36 (by decide) ?_
    exact W.iret hx hb hr (fun t ht hW => ⟨⟨_, (1, F), rfl, (by show (1, F).1 = thP n v x1 ∧ (thP n v x1 = 0 → 0 = F 7 (gi v) ∧ (1, F).2 = fP F (gi v) x1) ∧ (¬ thP n v x1 = 0 → (1, F).2 = F); have e9 : thP n v x1 = 1 := (by simp [thP, c_6]); exact ⟨e9.symm, fun h9 => absurd (e9.symm.trans h9) (by decide), fun _ => rfl⟩), by rw [ht]; exact hP, hD⟩, hS.F ht⟩) hS.2.2 dX1_put_37

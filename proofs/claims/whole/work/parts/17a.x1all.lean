/-! the reference: loops, calls that write -/
set_option maxHeartbeats 4000000 in
set_option maxRecDepth 100000 in
theorem c_X1_goes (l : Launch) (D : va_G) (q : Nat → Nat) (F : Nat → Nat → Int32) (n : Nat) (R : Nat → Int32) (th : Int32) (cI cZ : ClassId) (sz : Nat) (x1 : Int32) : Met l yX1_goes wsX1_goes ({ frames := 0, cells := 0, slots := 0, locals := 0 }) (va_Pc [.ref (q 9), .int x1] (wS D (wM q F (nI n) R th cI cZ) (tIZ cI cZ) sz)) (va_Qi (fun (r : Int32) (u : Unit) => r = bi (z0 x1)) (wB D (va_A (wM q F (nI n) R th cI cZ) sz) (fun (u : Unit) => wM q F (nI n) R x1 cI cZ)) (va_A (wM q F (nI n) R th cI cZ) sz)) 0 0 (va_A (wM q F (nI n) R th cI cZ) sz) := by
  refine wr_of (own := RX1) (cc := cX1_goes) (maxL := 2) (ret := (some .boolean)) (by decide) rfl rfl (Nat.le_of_ble_eq_true rfl) ?_
  intro p9 e9 s m9 a9 below meth c9 ls A hx hb hr hml hlocks hown hts hP hK hD hA hl
  have hin : ∀ w ∈ wsX10, w ∈ wsX1_goes := by decide +kernel
  have f38 := hts (.fieldLink RX1 38 "DangerousGoodsModel" "thrown" "I") (by decide +kernel)
  have hS : va_S A s.heap s.heap [] := va_S.rf
  have hl : lv_has ls 2 [(0, .ref (q 9)), (1, .int x1)] := hl
  refine lv_aload_n hx hb dX1_goes_0 rfl (lv_at hl 0 rfl) ?_
  refine lv_iload_n hx hb dX1_goes_1 rfl (lv_at hl 1 rfl) ?_
  refine va_put (D := D) (ci := 1) (v := .int x1) (ty := .int) hx hb hts hin tyX1 tyX1_ok nmX1 hown hK hP hD hS 0 rfl rfl 10 (by decide) f38 (fun _ h9 => h9) rfl (by decide +kernel) rfl rfl (Nat.le_of_ble_eq_true rfl) dX1_goes_2 (fun H locs hP hD hS => ?_)
  have hP : va_P D vwCl (wM q F (nI n) R x1 cI cZ) H := hP
  have hD : va_D A (wM q F (nI n) R x1 cI cZ) := hD
  refine lv_iload_n hx hb dX1_goes_5 rfl (lv_at hl 1 rfl) ?_
  refine lv_if_ne (x := x1) (tgt := 13) hx hb dX1_goes_6 (by decide) (fun c_6 => ?_) (fun c_6 => ?_)
  · skip
    refine lv_iconst (v := 0) hx hb dX1_goes_13 (by decide) ?_
    exact W.zret hx hb hr zn0 (fun t ht hW => ⟨⟨_, (), rfl, (by show 0 = bi (z0 x1); first | (simp only [bi, z0, eq_false c_6, reduceIte, Bool.false_eq_true, Bool.true_eq_false]; done) | (simp [bi, z0, eq_false c_6]; done)), by rw [ht]; exact hP, hD⟩, hS.F ht⟩) hS.2.2 dX1_goes_14
  · skip
    refine lv_iconst (v := 1) hx hb dX1_goes_9 (by decide) ?_
    refine lv_goto (tgt := 14) hx hb dX1_goes_10 (by decide) ?_
    exact W.zret hx hb hr zn1 (fun t ht hW => ⟨⟨_, (), rfl, (by show 1 = bi (z0 x1); first | (simp only [bi, z0, eq_true c_6, reduceIte, Bool.false_eq_true, Bool.true_eq_false]; done) | (simp [bi, z0, eq_true c_6]; done)), by rw [ht]; exact hP, hD⟩, hS.F ht⟩) hS.2.2 dX1_goes_14
set_option maxHeartbeats 4000000 in
set_option maxRecDepth 100000 in
theorem c_X1_thrown (l : Launch) (D : va_G) (q : Nat → Nat) (F : Nat → Nat → Int32) (n : Nat) (R : Nat → Int32) (th : Int32) (cI cZ : ClassId) : Met l yX1_thrown wsX1_thrown ({ frames := 0, cells := 0, slots := 0, locals := 0 }) (va_Pc [.ref (q 9)] (rW D (wM q F (nI n) R th cI cZ) (tIZ cI cZ))) (RO (fun r => r = th)) 0 0 nA := by
  refine ro_of (own := RX1) (cc := cX1_thrown) (maxL := 1) (ret := (some .int)) (by decide) rfl rfl (Nat.le_of_ble_eq_true rfl) ?_
  intro p9 e9 s m9 a9 below meth c9 ls hx hb hr hml hlocks hown hts hP hK hl
  have hin : ∀ w ∈ wsX10, w ∈ wsX1_thrown := by decide +kernel
  have f38 := hts (.fieldLink RX1 38 "DangerousGoodsModel" "thrown" "I") (by decide +kernel)
  have hS : va_S nA s.heap s.heap [] := va_S.rf
  have hl : lv_has ls 1 [(0, .ref (q 9))] := hl
  refine lv_aload_n hx hb dX1_thrown_0 rfl (lv_at hl 0 rfl) ?_
  refine va_get (D := D) (ci := 1) (v := .int th) hx hb hts hin hown hK hP 0 rfl rfl 10 (by decide) f38 (fun _ h9 => h9) rfl dX1_thrown_1 ?_
  exact W.iret hx hb hr (fun t ht hW => ⟨⟨_, (), rfl, rfl, trivial⟩, hS.F ht⟩) hS.2.2 dX1_thrown_4
set_option maxHeartbeats 4000000 in
set_option maxRecDepth 100000 in
theorem c_X1_asks (l : Launch) (D : va_G) (q : Nat → Nat) (F : Nat → Nat → Int32) (n : Nat) (R : Nat → Int32) (th : Int32) (cI cZ : ClassId) (sz : Nat) (v : Int32) : Met l yX1_asks wsX1_asks ({ frames := 2, cells := 0, slots := 0, locals := 43 }) (va_Pc [.ref (q 9), .int v] (wS D (wM q F (nI n) R th cI cZ) (tIZ cI cZ) sz)) (va_Qi (fun (r : Int32) (u : Int32) => r = bi (z0 (th1 n v)) ∧ u = th1 n v) (wB D (va_A (wM q F (nI n) R th cI cZ) sz) (fun (u : Int32) => wM q F (nI n) R u cI cZ)) (va_A (wM q F (nI n) R th cI cZ) sz)) 0 0 (va_A (wM q F (nI n) R th cI cZ) sz) := by
  refine wr_of (own := RX1) (cc := cX1_asks) (maxL := 2) (ret := (some .boolean)) (by decide) rfl rfl (Nat.le_of_ble_eq_true rfl) ?_
  intro p9 e9 s m9 a9 below meth c9 ls A hx hb hr hml hlocks hown hts hP hK hD hA hl
  have hS : va_S A s.heap s.heap [] := va_S.rf
  have hl : lv_has ls 2 [(0, .ref (q 9)), (1, .int v)] := hl
  refine lv_aload_n hx hb dX1_asks_0 rfl (lv_at hl 0 rfl) ?_
  refine lv_aload_n hx hb dX1_asks_1 rfl (lv_at hl 0 rfl) ?_
  refine lv_iload_n hx hb dX1_asks_2 rfl (lv_at hl 1 rfl) ?_
  refine ro_V (As := [.int v]) (rest := [.ref (q 9)]) ⟨hx, hb, hml, hown, hts⟩ (c_X1_areGoods l D q F n R th cI cZ v) (cwV 1 hts gX1_asks_X1_areGoods rfl rfl rfl (by decide +kernel) ⟨Nat.le_of_ble_eq_true rfl, Nat.le_of_ble_eq_true rfl⟩) hK hP hP (va_recv hK hP (ci := 1) (q0 := 0) rfl rfl) hS rfl hl.1 rfl (Nat.le_of_ble_eq_true rfl) dX1_asks_3 ⟨Nat.le_of_ble_eq_true rfl, Nat.le_of_ble_eq_true rfl⟩ (fun r H locs hr9 hP hS => ?_)
  subst hr9
  refine lv_if_eq (x := (bi (mIn v 0 (nI n - 1)))) (tgt := 13) hx hb dX1_asks_6 (by decide) (fun c_6 => ?_) (fun c_6 => ?_)
  · have c_6 := bi_e0.mp c_6
    refine lv_iconst (v := 1) hx hb dX1_asks_13 (by decide) ?_
    refine wr_V (As := [.int 1]) (rest := []) (wr := []) ⟨hx, hb, hml, hown, hts⟩ (c_X1_goes l D q F n R th cI cZ _ 1) (cwV 1 hts gX1_asks_X1_goes rfl rfl rfl (by decide +kernel) ⟨Nat.le_of_ble_eq_true rfl, Nat.le_of_ble_eq_true rfl⟩) hK hP hD hA [0, 1, 2, 3, 4, 5, 6, 7, 8, 9] [] rfl rfl (by decide) rfl (by decide) (by decide) (va_recv hK hP (ci := 1) (q0 := 0) rfl rfl) hS rfl hl.1 rfl (Nat.le_of_ble_eq_true rfl) dX1_asks_14 ⟨Nat.le_of_ble_eq_true rfl, Nat.le_of_ble_eq_true rfl⟩ (fun r9 u9 H locs h_14 hP hD hS => ?_)
    have hP : va_P D vwCl (wM q F (nI n) R 1 cI cZ) H := hP
    have hD : va_D A (wM q F (nI n) R 1 cI cZ) := hD
    obtain rfl : r9 = 0 := h_14.trans (by decide)
    exact W.zret hx hb hr zn0 (fun t ht hW => ⟨⟨_, 1, rfl, (by show 0 = bi (z0 (th1 n v)) ∧ 1 = th1 n v; first | (simp only [th1, z0, bi, c_6, reduceIte, Bool.false_eq_true, Bool.true_eq_false]; done) | (simp [th1, z0, bi, c_6]; done)), by rw [ht]; exact hP, hD⟩, hS.F ht⟩) hS.2.2 dX1_asks_17
  · have c_6 := bi_n0.mp c_6
    refine lv_iconst (v := 0) hx hb dX1_asks_9 (by decide) ?_
    refine lv_goto (tgt := 14) hx hb dX1_asks_10 (by decide) ?_
    refine wr_V (As := [.int 0]) (rest := []) (wr := []) ⟨hx, hb, hml, hown, hts⟩ (c_X1_goes l D q F n R th cI cZ _ 0) (cwV 1 hts gX1_asks_X1_goes rfl rfl rfl (by decide +kernel) ⟨Nat.le_of_ble_eq_true rfl, Nat.le_of_ble_eq_true rfl⟩) hK hP hD hA [0, 1, 2, 3, 4, 5, 6, 7, 8, 9] [] rfl rfl (by decide) rfl (by decide) (by decide) (va_recv hK hP (ci := 1) (q0 := 0) rfl rfl) hS rfl hl.1 rfl (Nat.le_of_ble_eq_true rfl) dX1_asks_14 ⟨Nat.le_of_ble_eq_true rfl, Nat.le_of_ble_eq_true rfl⟩ (fun r9 u9 H locs h_14 hP hD hS => ?_)
    have hP : va_P D vwCl (wM q F (nI n) R 0 cI cZ) H := hP
    have hD : va_D A (wM q F (nI n) R 0 cI cZ) := hD
    obtain rfl : r9 = 1 := h_14.trans (by decide)
    exact W.zret hx hb hr zn1 (fun t ht hW => ⟨⟨_, 0, rfl, (by show 1 = bi (z0 (th1 n v)) ∧ 0 = th1 n v; first | (simp only [th1, z0, bi, c_6, reduceIte, Bool.false_eq_true, Bool.true_eq_false]; done) | (simp [th1, z0, bi, c_6]; done)), by rw [ht]; exact hP, hD⟩, hS.F ht⟩) hS.2.2 dX1_asks_17
set_option maxHeartbeats 4000000 in
set_option maxRecDepth 100000 in
theorem c_X1_asksTwo (l : Launch) (D : va_G) (q : Nat → Nat) (F : Nat → Nat → Int32) (n : Nat) (R : Nat → Int32) (th : Int32) (cI cZ : ClassId) (sz : Nat) (v : Int32) (w : Int32) : Met l yX1_asksTwo wsX1_asksTwo ({ frames := 2, cells := 0, slots := 0, locals := 43 }) (va_Pc [.ref (q 9), .int v, .int w] (wS D (wM q F (nI n) R th cI cZ) (tIZ cI cZ) sz)) (va_Qi (fun (r : Int32) (u : Int32) => r = bi (z0 (th2 n v w)) ∧ u = th2 n v w) (wB D (va_A (wM q F (nI n) R th cI cZ) sz) (fun (u : Int32) => wM q F (nI n) R u cI cZ)) (va_A (wM q F (nI n) R th cI cZ) sz)) 0 0 (va_A (wM q F (nI n) R th cI cZ) sz) := by
  refine wr_of (own := RX1) (cc := cX1_asksTwo) (maxL := 3) (ret := (some .boolean)) (by decide) rfl rfl (Nat.le_of_ble_eq_true rfl) ?_
  intro p9 e9 s m9 a9 below meth c9 ls A hx hb hr hml hlocks hown hts hP hK hD hA hl
  have hS : va_S A s.heap s.heap [] := va_S.rf
  have hl : lv_has ls 3 [(0, .ref (q 9)), (1, .int v), (2, .int w)] := hl
  refine lv_aload_n hx hb dX1_asksTwo_0 rfl (lv_at hl 0 rfl) ?_
  refine lv_aload_n hx hb dX1_asksTwo_1 rfl (lv_at hl 0 rfl) ?_
  refine lv_iload_n hx hb dX1_asksTwo_2 rfl (lv_at hl 1 rfl) ?_
  refine ro_V (As := [.int v]) (rest := [.ref (q 9)]) ⟨hx, hb, hml, hown, hts⟩ (c_X1_areGoods l D q F n R th cI cZ v) (cwV 1 hts gX1_asksTwo_X1_areGoods rfl rfl rfl (by decide +kernel) ⟨Nat.le_of_ble_eq_true rfl, Nat.le_of_ble_eq_true rfl⟩) hK hP hP (va_recv hK hP (ci := 1) (q0 := 0) rfl rfl) hS rfl hl.1 rfl (Nat.le_of_ble_eq_true rfl) dX1_asksTwo_3 ⟨Nat.le_of_ble_eq_true rfl, Nat.le_of_ble_eq_true rfl⟩ (fun r H locs hr9 hP hS => ?_)
  subst hr9
  refine lv_if_eq (x := (bi (mIn v 0 (nI n - 1)))) (tgt := 17) hx hb dX1_asksTwo_6 (by decide) (fun c_6 => ?_) (fun c_6 => ?_)
  · have c_6 := bi_e0.mp c_6
    refine lv_iconst (v := 1) hx hb dX1_asksTwo_17 (by decide) ?_
    refine lv_goto (tgt := 31) hx hb dX1_asksTwo_18 (by decide) ?_
    refine wr_V (As := [.int 1]) (rest := []) (wr := []) ⟨hx, hb, hml, hown, hts⟩ (c_X1_goes l D q F n R th cI cZ _ 1) (cwV 1 hts gX1_asksTwo_X1_goes rfl rfl rfl (by decide +kernel) ⟨Nat.le_of_ble_eq_true rfl, Nat.le_of_ble_eq_true rfl⟩) hK hP hD hA [0, 1, 2, 3, 4, 5, 6, 7, 8, 9] [] rfl rfl (by decide) rfl (by decide) (by decide) (va_recv hK hP (ci := 1) (q0 := 0) rfl rfl) hS rfl hl.1 rfl (Nat.le_of_ble_eq_true rfl) dX1_asksTwo_31 ⟨Nat.le_of_ble_eq_true rfl, Nat.le_of_ble_eq_true rfl⟩ (fun r9 u9 H locs h_31 hP hD hS => ?_)
    have hP : va_P D vwCl (wM q F (nI n) R 1 cI cZ) H := hP
    have hD : va_D A (wM q F (nI n) R 1 cI cZ) := hD
    obtain rfl : r9 = 0 := h_31.trans (by decide)
    exact W.zret hx hb hr zn0 (fun t ht hW => ⟨⟨_, 1, rfl, (by show 0 = bi (z0 (th2 n v w)) ∧ 1 = th2 n v w; first | (simp only [th2, z0, bi, c_6, reduceIte, Bool.false_eq_true, Bool.true_eq_false]; done) | (simp [th2, z0, bi, c_6]; done)), by rw [ht]; exact hP, hD⟩, hS.F ht⟩) hS.2.2 dX1_asksTwo_34
  · have c_6 := bi_n0.mp c_6
    refine lv_aload_n hx hb dX1_asksTwo_9 rfl (lv_at hl 0 rfl) ?_
    refine lv_iload_n hx hb dX1_asksTwo_10 rfl (lv_at hl 2 rfl) ?_
    refine ro_V (As := [.int w]) (rest := [.ref (q 9)]) ⟨hx, hb, hml, hown, hts⟩ (c_X1_areGoods l D q F n R th cI cZ w) (cwV 1 hts gX1_asksTwo_X1_areGoods rfl rfl rfl (by decide +kernel) ⟨Nat.le_of_ble_eq_true rfl, Nat.le_of_ble_eq_true rfl⟩) hK hP hP (va_recv hK hP (ci := 1) (q0 := 0) rfl rfl) hS rfl hl.1 rfl (Nat.le_of_ble_eq_true rfl) dX1_asksTwo_11 ⟨Nat.le_of_ble_eq_true rfl, Nat.le_of_ble_eq_true rfl⟩ (fun r H locs hr9 hP hS => ?_)
    subst hr9
    refine lv_if_ne (x := (bi (mIn w 0 (nI n - 1)))) (tgt := 21) hx hb dX1_asksTwo_14 (by decide) (fun c_14 => ?_) (fun c_14 => ?_)
    · have c_14 := bi_n0.mp c_14
      refine lv_iload_n hx hb dX1_asksTwo_21 rfl (lv_at hl 1 rfl) ?_
      refine lv_iload_n hx hb dX1_asksTwo_22 rfl (lv_at hl 2 rfl) ?_
      refine lv_icmp_ne (x := v) (y := w) (tgt := 30) hx hb dX1_asksTwo_23 (by decide) (fun c_23 => ?_) (fun c_23 => ?_)
      · skip
        refine lv_iconst (v := 0) hx hb dX1_asksTwo_30 (by decide) ?_
        refine wr_V (As := [.int 0]) (rest := []) (wr := []) ⟨hx, hb, hml, hown, hts⟩ (c_X1_goes l D q F n R th cI cZ _ 0) (cwV 1 hts gX1_asksTwo_X1_goes rfl rfl rfl (by decide +kernel) ⟨Nat.le_of_ble_eq_true rfl, Nat.le_of_ble_eq_true rfl⟩) hK hP hD hA [0, 1, 2, 3, 4, 5, 6, 7, 8, 9] [] rfl rfl (by decide) rfl (by decide) (by decide) (va_recv hK hP (ci := 1) (q0 := 0) rfl rfl) hS rfl hl.1 rfl (Nat.le_of_ble_eq_true rfl) dX1_asksTwo_31 ⟨Nat.le_of_ble_eq_true rfl, Nat.le_of_ble_eq_true rfl⟩ (fun r9 u9 H locs h_31 hP hD hS => ?_)
        have hP : va_P D vwCl (wM q F (nI n) R 0 cI cZ) H := hP
        have hD : va_D A (wM q F (nI n) R 0 cI cZ) := hD
        obtain rfl : r9 = 1 := h_31.trans (by decide)
        exact W.zret hx hb hr zn1 (fun t ht hW => ⟨⟨_, 0, rfl, (by show 1 = bi (z0 (th2 n v w)) ∧ 0 = th2 n v w; first | (simp only [th2, z0, bi, c_6, c_14, eq_false c_23, reduceIte, Bool.false_eq_true, Bool.true_eq_false]; done) | (simp [th2, z0, bi, c_6, c_14, eq_false c_23]; done)), by rw [ht]; exact hP, hD⟩, hS.F ht⟩) hS.2.2 dX1_asksTwo_34
      · skip
        refine lv_iconst (v := 2) hx hb dX1_asksTwo_26 (by decide) ?_
        refine lv_goto (tgt := 31) hx hb dX1_asksTwo_27 (by decide) ?_
        refine wr_V (As := [.int 2]) (rest := []) (wr := []) ⟨hx, hb, hml, hown, hts⟩ (c_X1_goes l D q F n R th cI cZ _ 2) (cwV 1 hts gX1_asksTwo_X1_goes rfl rfl rfl (by decide +kernel) ⟨Nat.le_of_ble_eq_true rfl, Nat.le_of_ble_eq_true rfl⟩) hK hP hD hA [0, 1, 2, 3, 4, 5, 6, 7, 8, 9] [] rfl rfl (by decide) rfl (by decide) (by decide) (va_recv hK hP (ci := 1) (q0 := 0) rfl rfl) hS rfl hl.1 rfl (Nat.le_of_ble_eq_true rfl) dX1_asksTwo_31 ⟨Nat.le_of_ble_eq_true rfl, Nat.le_of_ble_eq_true rfl⟩ (fun r9 u9 H locs h_31 hP hD hS => ?_)
        have hP : va_P D vwCl (wM q F (nI n) R 2 cI cZ) H := hP
        have hD : va_D A (wM q F (nI n) R 2 cI cZ) := hD
        obtain rfl : r9 = 0 := h_31.trans (by decide)
        exact W.zret hx hb hr zn0 (fun t ht hW => ⟨⟨_, 2, rfl, (by show 0 = bi (z0 (th2 n v w)) ∧ 2 = th2 n v w; first | (simp only [th2, z0, bi, c_6, c_14, eq_true c_23, reduceIte, Bool.false_eq_true, Bool.true_eq_false]; done) | (simp [th2, z0, bi, c_6, c_14, eq_true c_23]; done)), by rw [ht]; exact hP, hD⟩, hS.F ht⟩) hS.2.2 dX1_asksTwo_34
    · have c_14 := bi_e0.mp c_14
      refine lv_iconst (v := 1) hx hb dX1_asksTwo_17 (by decide) ?_
      refine lv_goto (tgt := 31) hx hb dX1_asksTwo_18 (by decide) ?_
      refine wr_V (As := [.int 1]) (rest := []) (wr := []) ⟨hx, hb, hml, hown, hts⟩ (c_X1_goes l D q F n R th cI cZ _ 1) (cwV 1 hts gX1_asksTwo_X1_goes rfl rfl rfl (by decide +kernel) ⟨Nat.le_of_ble_eq_true rfl, Nat.le_of_ble_eq_true rfl⟩) hK hP hD hA [0, 1, 2, 3, 4, 5, 6, 7, 8, 9] [] rfl rfl (by decide) rfl (by decide) (by decide) (va_recv hK hP (ci := 1) (q0 := 0) rfl rfl) hS rfl hl.1 rfl (Nat.le_of_ble_eq_true rfl) dX1_asksTwo_31 ⟨Nat.le_of_ble_eq_true rfl, Nat.le_of_ble_eq_true rfl⟩ (fun r9 u9 H locs h_31 hP hD hS => ?_)
      have hP : va_P D vwCl (wM q F (nI n) R 1 cI cZ) H := hP
      have hD : va_D A (wM q F (nI n) R 1 cI cZ) := hD
      obtain rfl : r9 = 0 := h_31.trans (by decide)
      exact W.zret hx hb hr zn0 (fun t ht hW => ⟨⟨_, 1, rfl, (by show 0 = bi (z0 (th2 n v w)) ∧ 1 = th2 n v w; first | (simp only [th2, z0, bi, c_6, c_14, reduceIte, Bool.false_eq_true, Bool.true_eq_false]; done) | (simp [th2, z0, bi, c_6, c_14]; done)), by rw [ht]; exact hP, hD⟩, hS.F ht⟩) hS.2.2 dX1_asksTwo_34
set_option maxHeartbeats 4000000 in
set_option maxRecDepth 100000 in
theorem c_X1_goods (l : Launch) (D : va_G) (q : Nat → Nat) (F : Nat → Nat → Int32) (n : Nat) (R : Nat → Int32) (th : Int32) (cI cZ : ClassId) (sz : Nat) : Met l yX1_goods wsX1_goods ({ frames := 0, cells := 0, slots := 0, locals := 0 }) (va_Pc [.ref (q 9)] (wS D (wM q F (nI n) R th cI cZ) (tIZ cI cZ) sz)) (va_Qi (fun (r : Int32) (u : Int32) => r = nI n ∧ u = 0) (wB D (va_A (wM q F (nI n) R th cI cZ) sz) (fun (u : Int32) => wM q F (nI n) R u cI cZ)) (va_A (wM q F (nI n) R th cI cZ) sz)) 0 0 (va_A (wM q F (nI n) R th cI cZ) sz) := by
  refine wr_of (own := RX1) (cc := cX1_goods) (maxL := 1) (ret := (some .int)) (by decide) rfl rfl (Nat.le_of_ble_eq_true rfl) ?_
  intro p9 e9 s m9 a9 below meth c9 ls A hx hb hr hml hlocks hown hts hP hK hD hA hl
  have hin : ∀ w ∈ wsX10, w ∈ wsX1_goods := by decide +kernel
  have f38 := hts (.fieldLink RX1 38 "DangerousGoodsModel" "thrown" "I") (by decide +kernel)
  have f46 := hts (.fieldLink RX1 46 "DangerousGoodsModel" "goods" "I") (by decide +kernel)
  have hS : va_S A s.heap s.heap [] := va_S.rf
  have hl : lv_has ls 1 [(0, .ref (q 9))] := hl
  refine lv_aload_n hx hb dX1_goods_0 rfl (lv_at hl 0 rfl) ?_
  refine lv_iconst (v := 0) hx hb dX1_goods_1 (by decide) ?_
  refine va_put (D := D) (ci := 1) (v := .int 0) (ty := .int) hx hb hts hin tyX1 tyX1_ok nmX1 hown hK hP hD hS 0 rfl rfl 10 (by decide) f38 (fun _ h9 => h9) rfl (by decide +kernel) rfl rfl (Nat.le_of_ble_eq_true rfl) dX1_goods_2 (fun H locs hP hD hS => ?_)
  have hP : va_P D vwCl (wM q F (nI n) R 0 cI cZ) H := hP
  have hD : va_D A (wM q F (nI n) R 0 cI cZ) := hD
  refine lv_aload_n hx hb dX1_goods_5 rfl (lv_at hl 0 rfl) ?_
  refine va_get (D := D) (ci := 1) (v := .int (nI n)) hx hb hts hin hown hK hP 0 rfl rfl 4 (by decide) f46 (fun _ h9 => h9) rfl dX1_goods_6 ?_
  exact W.iret hx hb hr (fun t ht hW => ⟨⟨_, 0, rfl, (by show (nI n) = nI n ∧ 0 = 0; exact ⟨rfl, rfl⟩), by rw [ht]; exact hP, hD⟩, hS.F ht⟩) hS.2.2 dX1_goods_9
set_option maxHeartbeats 4000000 in
set_option maxRecDepth 100000 in
theorem c_X1_placeOf (l : Launch) (D : va_G) (q : Nat → Nat) (F : Nat → Nat → Int32) (n : Nat) (R : Nat → Int32) (th : Int32) (cI cZ : ClassId) (sz : Nat) (v : Int32) (hw : WF F n) : Met l yX1_placeOf wsX1_placeOf ({ frames := 3, cells := 0, slots := 0, locals := 64 }) (va_Pc [.ref (q 9), .int v] (wS D (wM q F (nI n) R th cI cZ) (tIZ cI cZ) sz)) (va_Qi (fun (r : Int32) (u : Int32) => u = th1 n v ∧ (u = 0 → r = F 7 (gi v))) (wB D (va_A (wM q F (nI n) R th cI cZ) sz) (fun (u : Int32) => wM q F (nI n) R u cI cZ)) (va_A (wM q F (nI n) R th cI cZ) sz)) 0 0 (va_A (wM q F (nI n) R th cI cZ) sz) := by
  refine wr_of (own := RX1) (cc := cX1_placeOf) (maxL := 2) (ret := (some .int)) (by decide) rfl rfl (Nat.le_of_ble_eq_true rfl) ?_
  intro p9 e9 s m9 a9 below meth c9 ls A hx hb hr hml hlocks hown hts hP hK hD hA hl
  have hin : ∀ w ∈ wsX10, w ∈ wsX1_placeOf := by decide +kernel
  have f32 := hts (.fieldLink RX1 32 "DangerousGoodsModel" "places" "[I") (by decide +kernel)
  have hS : va_S A s.heap s.heap [] := va_S.rf
  have hl : lv_has ls 2 [(0, .ref (q 9)), (1, .int v)] := hl
  refine lv_aload_n hx hb dX1_placeOf_0 rfl (lv_at hl 0 rfl) ?_
  refine lv_iload_n hx hb dX1_placeOf_1 rfl (lv_at hl 1 rfl) ?_
  refine wr_V (As := [.int v]) (rest := []) (wr := []) ⟨hx, hb, hml, hown, hts⟩ (c_X1_asks l D q F n R th cI cZ _ v) (cwV 1 hts gX1_placeOf_X1_asks rfl rfl rfl (by decide +kernel) ⟨Nat.le_of_ble_eq_true rfl, Nat.le_of_ble_eq_true rfl⟩) hK hP hD hA [0, 1, 2, 3, 4, 5, 6, 7, 8, 9] [] rfl rfl (by decide) rfl (by decide) (by decide) (va_recv hK hP (ci := 1) (q0 := 0) rfl rfl) hS rfl hl.1 rfl (Nat.le_of_ble_eq_true rfl) dX1_placeOf_2 ⟨Nat.le_of_ble_eq_true rfl, Nat.le_of_ble_eq_true rfl⟩ (fun r9 u9 H locs h_2 hP hD hS => ?_)
  have hP : va_P D vwCl (wM q F (nI n) R u9 cI cZ) H := hP
  have hD : va_D A (wM q F (nI n) R u9 cI cZ) := hD
  obtain ⟨rfl, rfl⟩ := h_2
  have hP : va_P D vwCl (wM q F (nI n) R (th1 n v) cI cZ) H := hP
  have hD : va_D A (wM q F (nI n) R (th1 n v) cI cZ) := hD
  refine lv_if_eq (x := (bi (z0 (th1 n v)))) (tgt := 17) hx hb dX1_placeOf_5 (by decide) (fun c_5 => ?_) (fun c_5 => ?_)
  · have c_5 := bi_e0.mp c_5
    refine lv_iconst (v := 0) hx hb dX1_placeOf_17 (by decide) ?_
    exact W.iret hx hb hr (fun t ht hW => ⟨⟨_, (th1 n v), rfl, (by show (th1 n v) = th1 n v ∧ ((th1 n v) = 0 → 0 = F 7 (gi v)); refine ⟨rfl, fun h9 => absurd h9 (z0_f c_5)⟩), by rw [ht]; exact hP, hD⟩, hS.F ht⟩) hS.2.2 dX1_placeOf_18
  · have c_5 := bi_n0.mp c_5
    obtain ⟨g, hg, ev⟩ := (gd_iff hw.n).mp (th1_of c_5)
    have eg : gi v = g := by rw [ev]; exact gi_nI (by have := hw.n; omega)
    rw [ev] at hl
    refine lv_aload_n hx hb dX1_placeOf_8 rfl (lv_at hl 0 rfl) ?_
    refine va_get (D := D) (ci := 1) (v := .ref (q 7)) hx hb hts hin hown hK hP 0 rfl rfl 8 (by decide) f32 (fun _ h9 => h9) rfl dX1_placeOf_9 ?_
    refine lv_iload_n hx hb dX1_placeOf_12 rfl (lv_at hl 1 rfl) ?_
    refine xiald hx hb hK hP 8 0 rfl rfl (g := g) (hw.g hg) (by decide) dX1_placeOf_13 ?_
    refine lv_goto (tgt := 18) hx hb dX1_placeOf_14 (by decide) ?_
    exact W.iret hx hb hr (fun t ht hW => ⟨⟨_, (th1 n v), rfl, (by show (th1 n v) = th1 n v ∧ ((th1 n v) = 0 → (F 7 g) = F 7 (gi v)); refine ⟨rfl, fun _ => ?_⟩; rw [eg]; try rfl), by rw [ht]; exact hP, hD⟩, hS.F ht⟩) hS.2.2 dX1_placeOf_18
set_option maxHeartbeats 4000000 in
set_option maxRecDepth 100000 in
theorem c_X1_isLimited (l : Launch) (D : va_G) (q : Nat → Nat) (F : Nat → Nat → Int32) (n : Nat) (R : Nat → Int32) (th : Int32) (cI cZ : ClassId) (sz : Nat) (v : Int32) (hw : WF F n) : Met l yX1_isLimited wsX1_isLimited ({ frames := 3, cells := 0, slots := 0, locals := 65 }) (va_Pc [.ref (q 9), .int v] (wS D (wM q F (nI n) R th cI cZ) (tIZ cI cZ) sz)) (va_Qi (fun (r : Int32) (u : Int32) => u = th1 n v ∧ (u = 0 → r = bi (sLim F (gi v)))) (wB D (va_A (wM q F (nI n) R th cI cZ) sz) (fun (u : Int32) => wM q F (nI n) R u cI cZ)) (va_A (wM q F (nI n) R th cI cZ) sz)) 0 0 (va_A (wM q F (nI n) R th cI cZ) sz) := by
  refine wr_of (own := RX1) (cc := cX1_isLimited) (maxL := 2) (ret := (some .boolean)) (by decide) rfl rfl (Nat.le_of_ble_eq_true rfl) ?_
  intro p9 e9 s m9 a9 below meth c9 ls A hx hb hr hml hlocks hown hts hP hK hD hA hl
  have hS : va_S A s.heap s.heap [] := va_S.rf
  have hl : lv_has ls 2 [(0, .ref (q 9)), (1, .int v)] := hl
  refine lv_aload_n hx hb dX1_isLimited_0 rfl (lv_at hl 0 rfl) ?_
  refine lv_iload_n hx hb dX1_isLimited_1 rfl (lv_at hl 1 rfl) ?_
  refine wr_V (As := [.int v]) (rest := []) (wr := []) ⟨hx, hb, hml, hown, hts⟩ (c_X1_asks l D q F n R th cI cZ _ v) (cwV 1 hts gX1_isLimited_X1_asks rfl rfl rfl (by decide +kernel) ⟨Nat.le_of_ble_eq_true rfl, Nat.le_of_ble_eq_true rfl⟩) hK hP hD hA [0, 1, 2, 3, 4, 5, 6, 7, 8, 9] [] rfl rfl (by decide) rfl (by decide) (by decide) (va_recv hK hP (ci := 1) (q0 := 0) rfl rfl) hS rfl hl.1 rfl (Nat.le_of_ble_eq_true rfl) dX1_isLimited_2 ⟨Nat.le_of_ble_eq_true rfl, Nat.le_of_ble_eq_true rfl⟩ (fun r9 u9 H locs h_2 hP hD hS => ?_)
  have hP : va_P D vwCl (wM q F (nI n) R u9 cI cZ) H := hP
  have hD : va_D A (wM q F (nI n) R u9 cI cZ) := hD
  obtain ⟨rfl, rfl⟩ := h_2
  have hP : va_P D vwCl (wM q F (nI n) R (th1 n v) cI cZ) H := hP
  have hD : va_D A (wM q F (nI n) R (th1 n v) cI cZ) := hD
  refine lv_if_eq (x := (bi (z0 (th1 n v)))) (tgt := 20) hx hb dX1_isLimited_5 (by decide) (fun c_5 => ?_) (fun c_5 => ?_)
  · have c_5 := bi_e0.mp c_5
    refine lv_iconst (v := 0) hx hb dX1_isLimited_20 (by decide) ?_
    exact W.zret hx hb hr zn0 (fun t ht hW => ⟨⟨_, (th1 n v), rfl, (by show (th1 n v) = th1 n v ∧ ((th1 n v) = 0 → 0 = bi (sLim F (gi v))); refine ⟨rfl, fun h9 => absurd h9 (z0_f c_5)⟩), by rw [ht]; exact hP, hD⟩, hS.F ht⟩) hS.2.2 dX1_isLimited_21
  · have c_5 := bi_n0.mp c_5
    obtain ⟨g, hg, ev⟩ := (gd_iff hw.n).mp (th1_of c_5)
    have eg : gi v = g := by rw [ev]; exact gi_nI (by have := hw.n; omega)
    rw [ev] at hl
    refine lv_aload_n hx hb dX1_isLimited_8 rfl (lv_at hl 0 rfl) ?_
    refine lv_iload_n hx hb dX1_isLimited_9 rfl (lv_at hl 1 rfl) ?_
    refine ro_V (As := [.int (nI g)]) (rest := []) ⟨hx, hb, hml, hown, hts⟩ (c_X1_areLimited l D q F n R (th1 n v) cI cZ g hw hg) (cwV 1 hts gX1_isLimited_X1_areLimited rfl rfl rfl (by decide +kernel) ⟨Nat.le_of_ble_eq_true rfl, Nat.le_of_ble_eq_true rfl⟩) hK hP hP (va_recv hK hP (ci := 1) (q0 := 0) rfl rfl) hS rfl hl.1 rfl (Nat.le_of_ble_eq_true rfl) dX1_isLimited_10 ⟨Nat.le_of_ble_eq_true rfl, Nat.le_of_ble_eq_true rfl⟩ (fun r H locs hr9 hP hS => ?_)
    subst hr9
    refine lv_if_eq (x := (bi (sLim F g))) (tgt := 20) hx hb dX1_isLimited_13 (by decide) (fun c_13 => ?_) (fun c_13 => ?_)
    · have c_13 := bi_e0.mp c_13
      refine lv_iconst (v := 0) hx hb dX1_isLimited_20 (by decide) ?_
      exact W.zret hx hb hr zn0 (fun t ht hW => ⟨⟨_, (th1 n v), rfl, (by show (th1 n v) = th1 n v ∧ ((th1 n v) = 0 → 0 = bi (sLim F (gi v))); refine ⟨rfl, fun _ => ?_⟩; rw [eg]; simp [bi, c_5, c_13]), by rw [ht]; exact hP, hD⟩, hS.F ht⟩) hS.2.2 dX1_isLimited_21
    · have c_13 := bi_n0.mp c_13
      refine lv_iconst (v := 1) hx hb dX1_isLimited_16 (by decide) ?_
      refine lv_goto (tgt := 21) hx hb dX1_isLimited_17 (by decide) ?_
      exact W.zret hx hb hr zn1 (fun t ht hW => ⟨⟨_, (th1 n v), rfl, (by show (th1 n v) = th1 n v ∧ ((th1 n v) = 0 → 1 = bi (sLim F (gi v))); refine ⟨rfl, fun _ => ?_⟩; rw [eg]; simp [bi, c_5, c_13]), by rw [ht]; exact hP, hD⟩, hS.F ht⟩) hS.2.2 dX1_isLimited_21
set_option maxHeartbeats 4000000 in
set_option maxRecDepth 100000 in
theorem c_X1_isExcepted (l : Launch) (D : va_G) (q : Nat → Nat) (F : Nat → Nat → Int32) (n : Nat) (R : Nat → Int32) (th : Int32) (cI cZ : ClassId) (sz : Nat) (v : Int32) (hw : WF F n) : Met l yX1_isExcepted wsX1_isExcepted ({ frames := 3, cells := 0, slots := 0, locals := 64 }) (va_Pc [.ref (q 9), .int v] (wS D (wM q F (nI n) R th cI cZ) (tIZ cI cZ) sz)) (va_Qi (fun (r : Int32) (u : Int32) => u = th1 n v ∧ (u = 0 → r = bi (sExc F (gi v)))) (wB D (va_A (wM q F (nI n) R th cI cZ) sz) (fun (u : Int32) => wM q F (nI n) R u cI cZ)) (va_A (wM q F (nI n) R th cI cZ) sz)) 0 0 (va_A (wM q F (nI n) R th cI cZ) sz) := by
  refine wr_of (own := RX1) (cc := cX1_isExcepted) (maxL := 2) (ret := (some .boolean)) (by decide) rfl rfl (Nat.le_of_ble_eq_true rfl) ?_
  intro p9 e9 s m9 a9 below meth c9 ls A hx hb hr hml hlocks hown hts hP hK hD hA hl
  have hS : va_S A s.heap s.heap [] := va_S.rf
  have hl : lv_has ls 2 [(0, .ref (q 9)), (1, .int v)] := hl
  refine lv_aload_n hx hb dX1_isExcepted_0 rfl (lv_at hl 0 rfl) ?_
  refine lv_iload_n hx hb dX1_isExcepted_1 rfl (lv_at hl 1 rfl) ?_
  refine wr_V (As := [.int v]) (rest := []) (wr := []) ⟨hx, hb, hml, hown, hts⟩ (c_X1_asks l D q F n R th cI cZ _ v) (cwV 1 hts gX1_isExcepted_X1_asks rfl rfl rfl (by decide +kernel) ⟨Nat.le_of_ble_eq_true rfl, Nat.le_of_ble_eq_true rfl⟩) hK hP hD hA [0, 1, 2, 3, 4, 5, 6, 7, 8, 9] [] rfl rfl (by decide) rfl (by decide) (by decide) (va_recv hK hP (ci := 1) (q0 := 0) rfl rfl) hS rfl hl.1 rfl (Nat.le_of_ble_eq_true rfl) dX1_isExcepted_2 ⟨Nat.le_of_ble_eq_true rfl, Nat.le_of_ble_eq_true rfl⟩ (fun r9 u9 H locs h_2 hP hD hS => ?_)
  have hP : va_P D vwCl (wM q F (nI n) R u9 cI cZ) H := hP
  have hD : va_D A (wM q F (nI n) R u9 cI cZ) := hD
  obtain ⟨rfl, rfl⟩ := h_2
  have hP : va_P D vwCl (wM q F (nI n) R (th1 n v) cI cZ) H := hP
  have hD : va_D A (wM q F (nI n) R (th1 n v) cI cZ) := hD
  refine lv_if_eq (x := (bi (z0 (th1 n v)))) (tgt := 20) hx hb dX1_isExcepted_5 (by decide) (fun c_5 => ?_) (fun c_5 => ?_)
  · have c_5 := bi_e0.mp c_5
    refine lv_iconst (v := 0) hx hb dX1_isExcepted_20 (by decide) ?_
    exact W.zret hx hb hr zn0 (fun t ht hW => ⟨⟨_, (th1 n v), rfl, (by show (th1 n v) = th1 n v ∧ ((th1 n v) = 0 → 0 = bi (sExc F (gi v))); refine ⟨rfl, fun h9 => absurd h9 (z0_f c_5)⟩), by rw [ht]; exact hP, hD⟩, hS.F ht⟩) hS.2.2 dX1_isExcepted_21
  · have c_5 := bi_n0.mp c_5
    obtain ⟨g, hg, ev⟩ := (gd_iff hw.n).mp (th1_of c_5)
    have eg : gi v = g := by rw [ev]; exact gi_nI (by have := hw.n; omega)
    rw [ev] at hl
    refine lv_aload_n hx hb dX1_isExcepted_8 rfl (lv_at hl 0 rfl) ?_
    refine lv_iload_n hx hb dX1_isExcepted_9 rfl (lv_at hl 1 rfl) ?_
    refine ro_V (As := [.int (nI g)]) (rest := []) ⟨hx, hb, hml, hown, hts⟩ (c_X1_areExcepted l D q F n R (th1 n v) cI cZ g hw hg) (cwV 1 hts gX1_isExcepted_X1_areExcepted rfl rfl rfl (by decide +kernel) ⟨Nat.le_of_ble_eq_true rfl, Nat.le_of_ble_eq_true rfl⟩) hK hP hP (va_recv hK hP (ci := 1) (q0 := 0) rfl rfl) hS rfl hl.1 rfl (Nat.le_of_ble_eq_true rfl) dX1_isExcepted_10 ⟨Nat.le_of_ble_eq_true rfl, Nat.le_of_ble_eq_true rfl⟩ (fun r H locs hr9 hP hS => ?_)
    subst hr9
    refine lv_if_eq (x := (bi (sExc F g))) (tgt := 20) hx hb dX1_isExcepted_13 (by decide) (fun c_13 => ?_) (fun c_13 => ?_)
    · have c_13 := bi_e0.mp c_13
      refine lv_iconst (v := 0) hx hb dX1_isExcepted_20 (by decide) ?_
      exact W.zret hx hb hr zn0 (fun t ht hW => ⟨⟨_, (th1 n v), rfl, (by show (th1 n v) = th1 n v ∧ ((th1 n v) = 0 → 0 = bi (sExc F (gi v))); refine ⟨rfl, fun _ => ?_⟩; rw [eg]; simp [bi, c_5, c_13]), by rw [ht]; exact hP, hD⟩, hS.F ht⟩) hS.2.2 dX1_isExcepted_21
    · have c_13 := bi_n0.mp c_13
      refine lv_iconst (v := 1) hx hb dX1_isExcepted_16 (by decide) ?_
      refine lv_goto (tgt := 21) hx hb dX1_isExcepted_17 (by decide) ?_
      exact W.zret hx hb hr zn1 (fun t ht hW => ⟨⟨_, (th1 n v), rfl, (by show (th1 n v) = th1 n v ∧ ((th1 n v) = 0 → 1 = bi (sExc F (gi v))); refine ⟨rfl, fun _ => ?_⟩; rw [eg]; simp [bi, c_5, c_13]), by rw [ht]; exact hP, hD⟩, hS.F ht⟩) hS.2.2 dX1_isExcepted_21
set_option maxHeartbeats 4000000 in
set_option maxRecDepth 100000 in
theorem c_X1_need (l : Launch) (D : va_G) (q : Nat → Nat) (F : Nat → Nat → Int32) (n : Nat) (R : Nat → Int32) (th : Int32) (cI cZ : ClassId) (sz : Nat) (v : Int32) (w : Int32) (hw : WF F n) : Met l yX1_need wsX1_need ({ frames := 4, cells := 0, slots := 0, locals := 90 }) (va_Pc [.ref (q 9), .int v, .int w] (wS D (wM q F (nI n) R th cI cZ) (tIZ cI cZ) sz)) (va_Qi (fun (r : Int32) (u : Int32) => u = th2 n v w ∧ (u = 0 → r = mNeed F (gi v) (gi w))) (wB D (va_A (wM q F (nI n) R th cI cZ) sz) (fun (u : Int32) => wM q F (nI n) R u cI cZ)) (va_A (wM q F (nI n) R th cI cZ) sz)) 0 0 (va_A (wM q F (nI n) R th cI cZ) sz) := by
  refine wr_of (own := RX1) (cc := cX1_need) (maxL := 3) (ret := (some .int)) (by decide) rfl rfl (Nat.le_of_ble_eq_true rfl) ?_
  intro p9 e9 s m9 a9 below meth c9 ls A hx hb hr hml hlocks hown hts hP hK hD hA hl
  have hS : va_S A s.heap s.heap [] := va_S.rf
  have hl : lv_has ls 3 [(0, .ref (q 9)), (1, .int v), (2, .int w)] := hl
  refine lv_aload_n hx hb dX1_need_0 rfl (lv_at hl 0 rfl) ?_
  refine lv_iload_n hx hb dX1_need_1 rfl (lv_at hl 1 rfl) ?_
  refine lv_iload_n hx hb dX1_need_2 rfl (lv_at hl 2 rfl) ?_
  refine wr_V (As := [.int v, .int w]) (rest := []) (wr := []) ⟨hx, hb, hml, hown, hts⟩ (c_X1_asksTwo l D q F n R th cI cZ _ v w) (cwV 2 hts gX1_need_X1_asksTwo rfl rfl rfl (by decide +kernel) ⟨Nat.le_of_ble_eq_true rfl, Nat.le_of_ble_eq_true rfl⟩) hK hP hD hA [0, 1, 2, 3, 4, 5, 6, 7, 8, 9] [] rfl rfl (by decide) rfl (by decide) (by decide) (va_recv hK hP (ci := 1) (q0 := 0) rfl rfl) hS rfl hl.1 rfl (Nat.le_of_ble_eq_true rfl) dX1_need_3 ⟨Nat.le_of_ble_eq_true rfl, Nat.le_of_ble_eq_true rfl⟩ (fun r9 u9 H locs h_3 hP hD hS => ?_)
  have hP : va_P D vwCl (wM q F (nI n) R u9 cI cZ) H := hP
  have hD : va_D A (wM q F (nI n) R u9 cI cZ) := hD
  obtain ⟨rfl, rfl⟩ := h_3
  have hP : va_P D vwCl (wM q F (nI n) R (th2 n v w) cI cZ) H := hP
  have hD : va_D A (wM q F (nI n) R (th2 n v w) cI cZ) := hD
  refine lv_if_eq (x := (bi (z0 (th2 n v w)))) (tgt := 18) hx hb dX1_need_6 (by decide) (fun c_6 => ?_) (fun c_6 => ?_)
  · have c_6 := bi_e0.mp c_6
    refine lv_iconst (v := 0) hx hb dX1_need_18 (by decide) ?_
    exact W.iret hx hb hr (fun t ht hW => ⟨⟨_, (th2 n v w), rfl, (by show (th2 n v w) = th2 n v w ∧ ((th2 n v w) = 0 → 0 = mNeed F (gi v) (gi w)); refine ⟨rfl, fun h9 => absurd h9 (z0_f c_6)⟩), by rw [ht]; exact hP, hD⟩, hS.F ht⟩) hS.2.2 dX1_need_19
  · have c_6 := bi_n0.mp c_6
    obtain ⟨hv9, hw9, hne⟩ := th2_of c_6
    obtain ⟨g, hg, ev⟩ := (gd_iff hw.n).mp hv9
    obtain ⟨h, hh, ew⟩ := (gd_iff hw.n).mp hw9
    have eg : gi v = g := by rw [ev]; exact gi_nI (by have := hw.n; omega)
    have eh : gi w = h := by rw [ew]; exact gi_nI (by have := hw.n; omega)
    rw [ev, ew] at hl
    refine lv_aload_n hx hb dX1_need_9 rfl (lv_at hl 0 rfl) ?_
    refine lv_iload_n hx hb dX1_need_10 rfl (lv_at hl 1 rfl) ?_
    refine lv_iload_n hx hb dX1_need_11 rfl (lv_at hl 2 rfl) ?_
    refine ro_V (As := [.int (nI g), .int (nI h)]) (rest := []) ⟨hx, hb, hml, hown, hts⟩ (c_X1_needs l D q F n R (th2 n v w) cI cZ g h hw hg hh) (cwV 2 hts gX1_need_X1_needs rfl rfl rfl (by decide +kernel) ⟨Nat.le_of_ble_eq_true rfl, Nat.le_of_ble_eq_true rfl⟩) hK hP hP (va_recv hK hP (ci := 1) (q0 := 0) rfl rfl) hS rfl hl.1 rfl (Nat.le_of_ble_eq_true rfl) dX1_need_12 ⟨Nat.le_of_ble_eq_true rfl, Nat.le_of_ble_eq_true rfl⟩ (fun r H locs hr9 hP hS => ?_)
    subst hr9
    refine lv_goto (tgt := 19) hx hb dX1_need_15 (by decide) ?_
    exact W.iret hx hb hr (fun t ht hW => ⟨⟨_, (th2 n v w), rfl, (by show (th2 n v w) = th2 n v w ∧ ((th2 n v w) = 0 → (mNeed F g h) = mNeed F (gi v) (gi w)); refine ⟨rfl, fun _ => ?_⟩; rw [eg, eh]; try rfl), by rw [ht]; exact hP, hD⟩, hS.F ht⟩) hS.2.2 dX1_need_19
set_option maxHeartbeats 4000000 in
set_option maxRecDepth 100000 in
theorem c_X1_areInBreach (l : Launch) (D : va_G) (q : Nat → Nat) (F : Nat → Nat → Int32) (n : Nat) (R : Nat → Int32) (th : Int32) (cI cZ : ClassId) (sz : Nat) (v : Int32) (w : Int32) (hw : WF F n) : Met l yX1_areInBreach wsX1_areInBreach ({ frames := 5, cells := 0, slots := 0, locals := 113 }) (va_Pc [.ref (q 9), .int v, .int w] (wS D (wM q F (nI n) R th cI cZ) (tIZ cI cZ) sz)) (va_Qi (fun (r : Int32) (u : Int32) => u = th2 n v w ∧ (u = 0 → r = bi (if F 7 (gi v) = -1 then false else mFoe F (gi v) (gi w) (F 7 (gi v))))) (wB D (va_A (wM q F (nI n) R th cI cZ) sz) (fun (u : Int32) => wM q F (nI n) R u cI cZ)) (va_A (wM q F (nI n) R th cI cZ) sz)) 0 0 (va_A (wM q F (nI n) R th cI cZ) sz) := by
  refine wr_of (own := RX1) (cc := cX1_areInBreach) (maxL := 3) (ret := (some .boolean)) (by decide) rfl rfl (Nat.le_of_ble_eq_true rfl) ?_
  intro p9 e9 s m9 a9 below meth c9 ls A hx hb hr hml hlocks hown hts hP hK hD hA hl
  have hin : ∀ w ∈ wsX10, w ∈ wsX1_areInBreach := by decide +kernel
  have f32 := hts (.fieldLink RX1 32 "DangerousGoodsModel" "places" "[I") (by decide +kernel)
  have hS : va_S A s.heap s.heap [] := va_S.rf
  have hl : lv_has ls 3 [(0, .ref (q 9)), (1, .int v), (2, .int w)] := hl
  refine lv_aload_n hx hb dX1_areInBreach_0 rfl (lv_at hl 0 rfl) ?_
  refine lv_iload_n hx hb dX1_areInBreach_1 rfl (lv_at hl 1 rfl) ?_
  refine lv_iload_n hx hb dX1_areInBreach_2 rfl (lv_at hl 2 rfl) ?_
  refine wr_V (As := [.int v, .int w]) (rest := []) (wr := []) ⟨hx, hb, hml, hown, hts⟩ (c_X1_asksTwo l D q F n R th cI cZ _ v w) (cwV 2 hts gX1_areInBreach_X1_asksTwo rfl rfl rfl (by decide +kernel) ⟨Nat.le_of_ble_eq_true rfl, Nat.le_of_ble_eq_true rfl⟩) hK hP hD hA [0, 1, 2, 3, 4, 5, 6, 7, 8, 9] [] rfl rfl (by decide) rfl (by decide) (by decide) (va_recv hK hP (ci := 1) (q0 := 0) rfl rfl) hS rfl hl.1 rfl (Nat.le_of_ble_eq_true rfl) dX1_areInBreach_3 ⟨Nat.le_of_ble_eq_true rfl, Nat.le_of_ble_eq_true rfl⟩ (fun r9 u9 H locs h_3 hP hD hS => ?_)
  have hP : va_P D vwCl (wM q F (nI n) R u9 cI cZ) H := hP
  have hD : va_D A (wM q F (nI n) R u9 cI cZ) := hD
  obtain ⟨rfl, rfl⟩ := h_3
  have hP : va_P D vwCl (wM q F (nI n) R (th2 n v w) cI cZ) H := hP
  have hD : va_D A (wM q F (nI n) R (th2 n v w) cI cZ) := hD
  refine lv_if_eq (x := (bi (z0 (th2 n v w)))) (tgt := 38) hx hb dX1_areInBreach_6 (by decide) (fun c_6 => ?_) (fun c_6 => ?_)
  · have c_6 := bi_e0.mp c_6
    refine lv_iconst (v := 0) hx hb dX1_areInBreach_38 (by decide) ?_
    exact W.zret hx hb hr zn0 (fun t ht hW => ⟨⟨_, (th2 n v w), rfl, (by show (th2 n v w) = th2 n v w ∧ ((th2 n v w) = 0 → 0 = bi (if F 7 (gi v) = -1 then false else mFoe F (gi v) (gi w) (F 7 (gi v)))); refine ⟨rfl, fun h9 => absurd h9 (z0_f c_6)⟩), by rw [ht]; exact hP, hD⟩, hS.F ht⟩) hS.2.2 dX1_areInBreach_39
  · have c_6 := bi_n0.mp c_6
    obtain ⟨hv9, hw9, hne⟩ := th2_of c_6
    obtain ⟨g, hg, ev⟩ := (gd_iff hw.n).mp hv9
    obtain ⟨h, hh, ew⟩ := (gd_iff hw.n).mp hw9
    have eg : gi v = g := by rw [ev]; exact gi_nI (by have := hw.n; omega)
    have eh : gi w = h := by rw [ew]; exact gi_nI (by have := hw.n; omega)
    rw [ev, ew] at hl
    refine lv_aload_n hx hb dX1_areInBreach_9 rfl (lv_at hl 0 rfl) ?_
    refine va_get (D := D) (ci := 1) (v := .ref (q 7)) hx hb hts hin hown hK hP 0 rfl rfl 8 (by decide) f32 (fun _ h9 => h9) rfl dX1_areInBreach_10 ?_
    refine lv_iload_n hx hb dX1_areInBreach_13 rfl (lv_at hl 1 rfl) ?_
    refine xiald hx hb hK hP 8 0 rfl rfl (g := g) (hw.g hg) (by decide) dX1_areInBreach_14 ?_
    refine lv_iconst (v := (-1)) hx hb dX1_areInBreach_15 (by decide) ?_
    refine lv_icmp_eq (x := (F 7 g)) (y := (-1)) (tgt := 38) hx hb dX1_areInBreach_16 (by decide) (fun c_16 => ?_) (fun c_16 => ?_)
    · skip
      refine lv_iconst (v := 0) hx hb dX1_areInBreach_38 (by decide) ?_
      exact W.zret hx hb hr zn0 (fun t ht hW => ⟨⟨_, (th2 n v w), rfl, (by show (th2 n v w) = th2 n v w ∧ ((th2 n v w) = 0 → 0 = bi (if F 7 (gi v) = -1 then false else mFoe F (gi v) (gi w) (F 7 (gi v)))); refine ⟨rfl, fun _ => ?_⟩; rw [eg, eh]; simp [bi, c_6, eq_true c_16]), by rw [ht]; exact hP, hD⟩, hS.F ht⟩) hS.2.2 dX1_areInBreach_39
    · skip
      refine lv_aload_n hx hb dX1_areInBreach_19 rfl (lv_at hl 0 rfl) ?_
      refine lv_iload_n hx hb dX1_areInBreach_20 rfl (lv_at hl 1 rfl) ?_
      refine lv_iload_n hx hb dX1_areInBreach_21 rfl (lv_at hl 2 rfl) ?_
      refine lv_aload_n hx hb dX1_areInBreach_22 rfl (lv_at hl 0 rfl) ?_
      refine va_get (D := D) (ci := 1) (v := .ref (q 7)) hx hb hts hin hown hK hP 0 rfl rfl 8 (by decide) f32 (fun _ h9 => h9) rfl dX1_areInBreach_23 ?_
      refine lv_iload_n hx hb dX1_areInBreach_26 rfl (lv_at hl 1 rfl) ?_
      refine xiald hx hb hK hP 8 0 rfl rfl (g := g) (hw.g hg) (by decide) dX1_areInBreach_27 ?_
      refine ro_V (As := [.int (nI g), .int (nI h), .int (F 7 g)]) (rest := []) ⟨hx, hb, hml, hown, hts⟩ (c_X1_areFoes l D q F n R (th2 n v w) cI cZ g h (F 7 g) hw hg hh) (cwV 3 hts gX1_areInBreach_X1_areFoes rfl rfl rfl (by decide +kernel) ⟨Nat.le_of_ble_eq_true rfl, Nat.le_of_ble_eq_true rfl⟩) hK hP hP (va_recv hK hP (ci := 1) (q0 := 0) rfl rfl) hS rfl hl.1 rfl (Nat.le_of_ble_eq_true rfl) dX1_areInBreach_28 ⟨Nat.le_of_ble_eq_true rfl, Nat.le_of_ble_eq_true rfl⟩ (fun r H locs hr9 hP hS => ?_)
      subst hr9
      refine lv_if_eq (x := (bi (mFoe F g h (F 7 g)))) (tgt := 38) hx hb dX1_areInBreach_31 (by decide) (fun c_31 => ?_) (fun c_31 => ?_)
      · have c_31 := bi_e0.mp c_31
        refine lv_iconst (v := 0) hx hb dX1_areInBreach_38 (by decide) ?_
        exact W.zret hx hb hr zn0 (fun t ht hW => ⟨⟨_, (th2 n v w), rfl, (by show (th2 n v w) = th2 n v w ∧ ((th2 n v w) = 0 → 0 = bi (if F 7 (gi v) = -1 then false else mFoe F (gi v) (gi w) (F 7 (gi v)))); refine ⟨rfl, fun _ => ?_⟩; rw [eg, eh]; simp [bi, c_6, eq_false c_16, c_31]), by rw [ht]; exact hP, hD⟩, hS.F ht⟩) hS.2.2 dX1_areInBreach_39
      · have c_31 := bi_n0.mp c_31
        refine lv_iconst (v := 1) hx hb dX1_areInBreach_34 (by decide) ?_
        refine lv_goto (tgt := 39) hx hb dX1_areInBreach_35 (by decide) ?_
        exact W.zret hx hb hr zn1 (fun t ht hW => ⟨⟨_, (th2 n v w), rfl, (by show (th2 n v w) = th2 n v w ∧ ((th2 n v w) = 0 → 1 = bi (if F 7 (gi v) = -1 then false else mFoe F (gi v) (gi w) (F 7 (gi v)))); refine ⟨rfl, fun _ => ?_⟩; rw [eg, eh]; simp [bi, c_6, eq_false c_16, c_31]), by rw [ht]; exact hP, hD⟩, hS.F ht⟩) hS.2.2 dX1_areInBreach_39
set_option maxHeartbeats 4000000 in
set_option maxRecDepth 100000 in
theorem c_X1_isMisplaced (l : Launch) (D : va_G) (q : Nat → Nat) (F : Nat → Nat → Int32) (n : Nat) (R : Nat → Int32) (th : Int32) (cI cZ : ClassId) (sz : Nat) (v : Int32) (hw : WF F n) : Met l yX1_isMisplaced wsX1_isMisplaced ({ frames := 3, cells := 0, slots := 0, locals := 68 }) (va_Pc [.ref (q 9), .int v] (wS D (wM q F (nI n) R th cI cZ) (tIZ cI cZ) sz)) (va_Qi (fun (r : Int32) (u : Int32) => u = th1 n v ∧ (u = 0 → r = bi (if F 7 (gi v) = -1 then false else mWrong F (gi v) (F 7 (gi v))))) (wB D (va_A (wM q F (nI n) R th cI cZ) sz) (fun (u : Int32) => wM q F (nI n) R u cI cZ)) (va_A (wM q F (nI n) R th cI cZ) sz)) 0 0 (va_A (wM q F (nI n) R th cI cZ) sz) := by
  refine wr_of (own := RX1) (cc := cX1_isMisplaced) (maxL := 2) (ret := (some .boolean)) (by decide) rfl rfl (Nat.le_of_ble_eq_true rfl) ?_
  intro p9 e9 s m9 a9 below meth c9 ls A hx hb hr hml hlocks hown hts hP hK hD hA hl
  have hin : ∀ w ∈ wsX10, w ∈ wsX1_isMisplaced := by decide +kernel
  have f32 := hts (.fieldLink RX1 32 "DangerousGoodsModel" "places" "[I") (by decide +kernel)
  have hS : va_S A s.heap s.heap [] := va_S.rf
  have hl : lv_has ls 2 [(0, .ref (q 9)), (1, .int v)] := hl
  refine lv_aload_n hx hb dX1_isMisplaced_0 rfl (lv_at hl 0 rfl) ?_
  refine lv_iload_n hx hb dX1_isMisplaced_1 rfl (lv_at hl 1 rfl) ?_
  refine wr_V (As := [.int v]) (rest := []) (wr := []) ⟨hx, hb, hml, hown, hts⟩ (c_X1_asks l D q F n R th cI cZ _ v) (cwV 1 hts gX1_isMisplaced_X1_asks rfl rfl rfl (by decide +kernel) ⟨Nat.le_of_ble_eq_true rfl, Nat.le_of_ble_eq_true rfl⟩) hK hP hD hA [0, 1, 2, 3, 4, 5, 6, 7, 8, 9] [] rfl rfl (by decide) rfl (by decide) (by decide) (va_recv hK hP (ci := 1) (q0 := 0) rfl rfl) hS rfl hl.1 rfl (Nat.le_of_ble_eq_true rfl) dX1_isMisplaced_2 ⟨Nat.le_of_ble_eq_true rfl, Nat.le_of_ble_eq_true rfl⟩ (fun r9 u9 H locs h_2 hP hD hS => ?_)
  have hP : va_P D vwCl (wM q F (nI n) R u9 cI cZ) H := hP
  have hD : va_D A (wM q F (nI n) R u9 cI cZ) := hD
  obtain ⟨rfl, rfl⟩ := h_2
  have hP : va_P D vwCl (wM q F (nI n) R (th1 n v) cI cZ) H := hP
  have hD : va_D A (wM q F (nI n) R (th1 n v) cI cZ) := hD
  refine lv_if_eq (x := (bi (z0 (th1 n v)))) (tgt := 36) hx hb dX1_isMisplaced_5 (by decide) (fun c_5 => ?_) (fun c_5 => ?_)
  · have c_5 := bi_e0.mp c_5
    refine lv_iconst (v := 0) hx hb dX1_isMisplaced_36 (by decide) ?_
    exact W.zret hx hb hr zn0 (fun t ht hW => ⟨⟨_, (th1 n v), rfl, (by show (th1 n v) = th1 n v ∧ ((th1 n v) = 0 → 0 = bi (if F 7 (gi v) = -1 then false else mWrong F (gi v) (F 7 (gi v)))); refine ⟨rfl, fun h9 => absurd h9 (z0_f c_5)⟩), by rw [ht]; exact hP, hD⟩, hS.F ht⟩) hS.2.2 dX1_isMisplaced_37
  · have c_5 := bi_n0.mp c_5
    obtain ⟨g, hg, ev⟩ := (gd_iff hw.n).mp (th1_of c_5)
    have eg : gi v = g := by rw [ev]; exact gi_nI (by have := hw.n; omega)
    rw [ev] at hl
    refine lv_aload_n hx hb dX1_isMisplaced_8 rfl (lv_at hl 0 rfl) ?_
    refine va_get (D := D) (ci := 1) (v := .ref (q 7)) hx hb hts hin hown hK hP 0 rfl rfl 8 (by decide) f32 (fun _ h9 => h9) rfl dX1_isMisplaced_9 ?_
    refine lv_iload_n hx hb dX1_isMisplaced_12 rfl (lv_at hl 1 rfl) ?_
    refine xiald hx hb hK hP 8 0 rfl rfl (g := g) (hw.g hg) (by decide) dX1_isMisplaced_13 ?_
    refine lv_iconst (v := (-1)) hx hb dX1_isMisplaced_14 (by decide) ?_
    refine lv_icmp_eq (x := (F 7 g)) (y := (-1)) (tgt := 36) hx hb dX1_isMisplaced_15 (by decide) (fun c_15 => ?_) (fun c_15 => ?_)
    · skip
      refine lv_iconst (v := 0) hx hb dX1_isMisplaced_36 (by decide) ?_
      exact W.zret hx hb hr zn0 (fun t ht hW => ⟨⟨_, (th1 n v), rfl, (by show (th1 n v) = th1 n v ∧ ((th1 n v) = 0 → 0 = bi (if F 7 (gi v) = -1 then false else mWrong F (gi v) (F 7 (gi v)))); refine ⟨rfl, fun _ => ?_⟩; rw [eg]; simp [bi, c_5, eq_true c_15]), by rw [ht]; exact hP, hD⟩, hS.F ht⟩) hS.2.2 dX1_isMisplaced_37
    · skip
      refine lv_aload_n hx hb dX1_isMisplaced_18 rfl (lv_at hl 0 rfl) ?_
      refine lv_iload_n hx hb dX1_isMisplaced_19 rfl (lv_at hl 1 rfl) ?_
      refine lv_aload_n hx hb dX1_isMisplaced_20 rfl (lv_at hl 0 rfl) ?_
      refine va_get (D := D) (ci := 1) (v := .ref (q 7)) hx hb hts hin hown hK hP 0 rfl rfl 8 (by decide) f32 (fun _ h9 => h9) rfl dX1_isMisplaced_21 ?_
      refine lv_iload_n hx hb dX1_isMisplaced_24 rfl (lv_at hl 1 rfl) ?_
      refine xiald hx hb hK hP 8 0 rfl rfl (g := g) (hw.g hg) (by decide) dX1_isMisplaced_25 ?_
      refine ro_V (As := [.int (nI g), .int (F 7 g)]) (rest := []) ⟨hx, hb, hml, hown, hts⟩ (c_X1_areWrong l D q F n R (th1 n v) cI cZ g (F 7 g) hw hg (hw.p7 hg) c_15) (cwV 2 hts gX1_isMisplaced_X1_areWrong rfl rfl rfl (by decide +kernel) ⟨Nat.le_of_ble_eq_true rfl, Nat.le_of_ble_eq_true rfl⟩) hK hP hP (va_recv hK hP (ci := 1) (q0 := 0) rfl rfl) hS rfl hl.1 rfl (Nat.le_of_ble_eq_true rfl) dX1_isMisplaced_26 ⟨Nat.le_of_ble_eq_true rfl, Nat.le_of_ble_eq_true rfl⟩ (fun r H locs hr9 hP hS => ?_)
      subst hr9
      refine lv_if_eq (x := (bi (mWrong F g (F 7 g)))) (tgt := 36) hx hb dX1_isMisplaced_29 (by decide) (fun c_29 => ?_) (fun c_29 => ?_)
      · have c_29 := bi_e0.mp c_29
        refine lv_iconst (v := 0) hx hb dX1_isMisplaced_36 (by decide) ?_
        exact W.zret hx hb hr zn0 (fun t ht hW => ⟨⟨_, (th1 n v), rfl, (by show (th1 n v) = th1 n v ∧ ((th1 n v) = 0 → 0 = bi (if F 7 (gi v) = -1 then false else mWrong F (gi v) (F 7 (gi v)))); refine ⟨rfl, fun _ => ?_⟩; rw [eg]; simp [bi, c_5, eq_false c_15, c_29]), by rw [ht]; exact hP, hD⟩, hS.F ht⟩) hS.2.2 dX1_isMisplaced_37
      · have c_29 := bi_n0.mp c_29
        refine lv_iconst (v := 1) hx hb dX1_isMisplaced_32 (by decide) ?_
        refine lv_goto (tgt := 37) hx hb dX1_isMisplaced_33 (by decide) ?_
        exact W.zret hx hb hr zn1 (fun t ht hW => ⟨⟨_, (th1 n v), rfl, (by show (th1 n v) = th1 n v ∧ ((th1 n v) = 0 → 1 = bi (if F 7 (gi v) = -1 then false else mWrong F (gi v) (F 7 (gi v)))); refine ⟨rfl, fun _ => ?_⟩; rw [eg]; simp [bi, c_5, eq_false c_15, c_29]), by rw [ht]; exact hP, hD⟩, hS.F ht⟩) hS.2.2 dX1_isMisplaced_37
set_option maxHeartbeats 4000000 in
set_option maxRecDepth 100000 in
theorem c_X1_inBreachWith (l : Launch) (D : va_G) (q : Nat → Nat) (F : Nat → Nat → Int32) (n : Nat) (R : Nat → Int32) (th : Int32) (cI cZ : ClassId) (sz : Nat) (v : Int32) (hw : WF F n) : Met l yX1_inBreachWith wsX1_inBreachWith ({ frames := 6, cells := 0, slots := 0, locals := 136 }) (va_Pc [.ref (q 9), .int v] (wS D (wM q F (nI n) R th cI cZ) (tIZ cI cZ) sz)) (va_Qi (fun (r : Int32) (u : Int32) => u = th1 n v ∧ (u = 0 → r = nI (mFoes F n (gi v)))) (wB D (va_A (wM q F (nI n) R th cI cZ) sz) (fun (u : Int32) => wM q F (nI n) R u cI cZ)) (va_A (wM q F (nI n) R th cI cZ) sz)) 0 0 (va_A (wM q F (nI n) R th cI cZ) sz) := by
  refine wr_of (own := RX1) (cc := cX1_inBreachWith) (maxL := 2) (ret := (some .int)) (by decide) rfl rfl (Nat.le_of_ble_eq_true rfl) ?_
  intro p9 e9 s m9 a9 below meth c9 ls A hx hb hr hml hlocks hown hts hP hK hD hA hl
  have hS : va_S A s.heap s.heap [] := va_S.rf
  have hl : lv_has ls 2 [(0, .ref (q 9)), (1, .int v)] := hl
  refine lv_aload_n hx hb dX1_inBreachWith_0 rfl (lv_at hl 0 rfl) ?_
  refine lv_iload_n hx hb dX1_inBreachWith_1 rfl (lv_at hl 1 rfl) ?_
  refine wr_V (As := [.int v]) (rest := []) (wr := []) ⟨hx, hb, hml, hown, hts⟩ (c_X1_asks l D q F n R th cI cZ _ v) (cwV 1 hts gX1_inBreachWith_X1_asks rfl rfl rfl (by decide +kernel) ⟨Nat.le_of_ble_eq_true rfl, Nat.le_of_ble_eq_true rfl⟩) hK hP hD hA [0, 1, 2, 3, 4, 5, 6, 7, 8, 9] [] rfl rfl (by decide) rfl (by decide) (by decide) (va_recv hK hP (ci := 1) (q0 := 0) rfl rfl) hS rfl hl.1 rfl (Nat.le_of_ble_eq_true rfl) dX1_inBreachWith_2 ⟨Nat.le_of_ble_eq_true rfl, Nat.le_of_ble_eq_true rfl⟩ (fun r9 u9 H locs h_2 hP hD hS => ?_)
  have hP : va_P D vwCl (wM q F (nI n) R u9 cI cZ) H := hP
  have hD : va_D A (wM q F (nI n) R u9 cI cZ) := hD
  obtain ⟨rfl, rfl⟩ := h_2
  have hP : va_P D vwCl (wM q F (nI n) R (th1 n v) cI cZ) H := hP
  have hD : va_D A (wM q F (nI n) R (th1 n v) cI cZ) := hD
  refine lv_if_eq (x := (bi (z0 (th1 n v)))) (tgt := 16) hx hb dX1_inBreachWith_5 (by decide) (fun c_5 => ?_) (fun c_5 => ?_)
  · have c_5 := bi_e0.mp c_5
    refine lv_iconst (v := 0) hx hb dX1_inBreachWith_16 (by decide) ?_
    exact W.iret hx hb hr (fun t ht hW => ⟨⟨_, (th1 n v), rfl, (by show (th1 n v) = th1 n v ∧ ((th1 n v) = 0 → 0 = nI (mFoes F n (gi v))); refine ⟨rfl, fun h9 => absurd h9 (z0_f c_5)⟩), by rw [ht]; exact hP, hD⟩, hS.F ht⟩) hS.2.2 dX1_inBreachWith_17
  · have c_5 := bi_n0.mp c_5
    obtain ⟨g, hg, ev⟩ := (gd_iff hw.n).mp (th1_of c_5)
    have eg : gi v = g := by rw [ev]; exact gi_nI (by have := hw.n; omega)
    rw [ev] at hl
    refine lv_aload_n hx hb dX1_inBreachWith_8 rfl (lv_at hl 0 rfl) ?_
    refine lv_iload_n hx hb dX1_inBreachWith_9 rfl (lv_at hl 1 rfl) ?_
    refine ro_V (As := [.int (nI g)]) (rest := []) ⟨hx, hb, hml, hown, hts⟩ (c_X1_foesOf l D q F n R (th1 n v) cI cZ g hw hg) (cwV 1 hts gX1_inBreachWith_X1_foesOf rfl rfl rfl (by decide +kernel) ⟨Nat.le_of_ble_eq_true rfl, Nat.le_of_ble_eq_true rfl⟩) hK hP hP (va_recv hK hP (ci := 1) (q0 := 0) rfl rfl) hS rfl hl.1 rfl (Nat.le_of_ble_eq_true rfl) dX1_inBreachWith_10 ⟨Nat.le_of_ble_eq_true rfl, Nat.le_of_ble_eq_true rfl⟩ (fun r H locs hr9 hP hS => ?_)
    subst hr9
    refine lv_goto (tgt := 17) hx hb dX1_inBreachWith_13 (by decide) ?_
    exact W.iret hx hb hr (fun t ht hW => ⟨⟨_, (th1 n v), rfl, (by show (th1 n v) = th1 n v ∧ ((th1 n v) = 0 → (nI (mFoes F n g)) = nI (mFoes F n (gi v))); refine ⟨rfl, fun _ => ?_⟩; rw [eg]; try rfl), by rw [ht]; exact hP, hD⟩, hS.F ht⟩) hS.2.2 dX1_inBreachWith_17
set_option maxHeartbeats 4000000 in
set_option maxRecDepth 100000 in
theorem c_X1_distance (l : Launch) (D : va_G) (q : Nat → Nat) (F : Nat → Nat → Int32) (n : Nat) (R : Nat → Int32) (th : Int32) (cI cZ : ClassId) (sz : Nat) (c1 : Int32) (c2 : Int32) : Met l yX1_distance wsX1_distance ({ frames := 2, cells := 0, slots := 0, locals := 42 }) (va_Pc [.ref (q 9), .int c1, .int c2] (wS D (wM q F (nI n) R th cI cZ) (tIZ cI cZ) sz)) (va_Qi (fun (r : Int32) (u : Int32) => u = thD c1 c2 ∧ (u = 0 → r = mApart c1 c2)) (wB D (va_A (wM q F (nI n) R th cI cZ) sz) (fun (u : Int32) => wM q F (nI n) R u cI cZ)) (va_A (wM q F (nI n) R th cI cZ) sz)) 0 0 (va_A (wM q F (nI n) R th cI cZ) sz) := by
  refine wr_of (own := RX1) (cc := cX1_distance) (maxL := 3) (ret := (some .int)) (by decide) rfl rfl (Nat.le_of_ble_eq_true rfl) ?_
  intro p9 e9 s m9 a9 below meth c9 ls A hx hb hr hml hlocks hown hts hP hK hD hA hl
  have hS : va_S A s.heap s.heap [] := va_S.rf
  have hl : lv_has ls 3 [(0, .ref (q 9)), (1, .int c1), (2, .int c2)] := hl
  refine lv_aload_n hx hb dX1_distance_0 rfl (lv_at hl 0 rfl) ?_
  refine lv_iload_n hx hb dX1_distance_1 rfl (lv_at hl 1 rfl) ?_
  refine ro_S (As := [.int c1]) (rest := [.ref (q 9)]) ⟨hx, hb, hml, hown, hts⟩ (c_X1_isPlace l c1) (va_cwS 1 hts gX1_distance_X1_isPlace rfl rfl rfl (by decide +kernel) ⟨Nat.le_of_ble_eq_true rfl, Nat.le_of_ble_eq_true rfl⟩) hP hS rfl hl.1 rfl (Nat.le_of_ble_eq_true rfl) dX1_distance_2 ⟨Nat.le_of_ble_eq_true rfl, Nat.le_of_ble_eq_true rfl⟩ (fun r H locs hr9 hP hS => ?_)
  subst hr9
  refine lv_if_eq (x := (bi (mIn c1 0 47))) (tgt := 19) hx hb dX1_distance_5 (by decide) (fun c_5 => ?_) (fun c_5 => ?_)
  · have c_5 := bi_e0.mp c_5
    refine lv_iconst (v := 1) hx hb dX1_distance_19 (by decide) ?_
    refine wr_V (As := [.int 1]) (rest := []) (wr := []) ⟨hx, hb, hml, hown, hts⟩ (c_X1_goes l D q F n R th cI cZ _ 1) (cwV 1 hts gX1_distance_X1_goes rfl rfl rfl (by decide +kernel) ⟨Nat.le_of_ble_eq_true rfl, Nat.le_of_ble_eq_true rfl⟩) hK hP hD hA [0, 1, 2, 3, 4, 5, 6, 7, 8, 9] [] rfl rfl (by decide) rfl (by decide) (by decide) (va_recv hK hP (ci := 1) (q0 := 0) rfl rfl) hS rfl hl.1 rfl (Nat.le_of_ble_eq_true rfl) dX1_distance_20 ⟨Nat.le_of_ble_eq_true rfl, Nat.le_of_ble_eq_true rfl⟩ (fun r9 u9 H locs h_20 hP hD hS => ?_)
    have hP : va_P D vwCl (wM q F (nI n) R 1 cI cZ) H := hP
    have hD : va_D A (wM q F (nI n) R 1 cI cZ) := hD
    obtain rfl : r9 = 0 := h_20.trans (by decide)
    refine lv_if_eq (x := 0) (tgt := 34) hx hb dX1_distance_23 (by decide) (fun _ => ?_) (fun k => absurd (by decide) k)
    refine lv_iconst (v := 0) hx hb dX1_distance_34 (by decide) ?_
    exact W.iret hx hb hr (fun t ht hW => ⟨⟨_, 1, rfl, (by show 1 = thD c1 c2 ∧ (1 = 0 → 0 = mApart c1 c2); have e9 : thD c1 c2 = 1 := (by simp [thD, c_5]); exact ⟨e9.symm, fun h9 => absurd h9 (by decide)⟩), by rw [ht]; exact hP, hD⟩, hS.F ht⟩) hS.2.2 dX1_distance_35
  · have c_5 := bi_n0.mp c_5
    refine lv_iload_n hx hb dX1_distance_8 rfl (lv_at hl 2 rfl) ?_
    refine ro_S (As := [.int c2]) (rest := [.ref (q 9)]) ⟨hx, hb, hml, hown, hts⟩ (c_X1_isPlace l c2) (va_cwS 1 hts gX1_distance_X1_isPlace rfl rfl rfl (by decide +kernel) ⟨Nat.le_of_ble_eq_true rfl, Nat.le_of_ble_eq_true rfl⟩) hP hS rfl hl.1 rfl (Nat.le_of_ble_eq_true rfl) dX1_distance_9 ⟨Nat.le_of_ble_eq_true rfl, Nat.le_of_ble_eq_true rfl⟩ (fun r H locs hr9 hP hS => ?_)
    subst hr9
    refine lv_if_eq (x := (bi (mIn c2 0 47))) (tgt := 19) hx hb dX1_distance_12 (by decide) (fun c_12 => ?_) (fun c_12 => ?_)
    · have c_12 := bi_e0.mp c_12
      refine lv_iconst (v := 1) hx hb dX1_distance_19 (by decide) ?_
      refine wr_V (As := [.int 1]) (rest := []) (wr := []) ⟨hx, hb, hml, hown, hts⟩ (c_X1_goes l D q F n R th cI cZ _ 1) (cwV 1 hts gX1_distance_X1_goes rfl rfl rfl (by decide +kernel) ⟨Nat.le_of_ble_eq_true rfl, Nat.le_of_ble_eq_true rfl⟩) hK hP hD hA [0, 1, 2, 3, 4, 5, 6, 7, 8, 9] [] rfl rfl (by decide) rfl (by decide) (by decide) (va_recv hK hP (ci := 1) (q0 := 0) rfl rfl) hS rfl hl.1 rfl (Nat.le_of_ble_eq_true rfl) dX1_distance_20 ⟨Nat.le_of_ble_eq_true rfl, Nat.le_of_ble_eq_true rfl⟩ (fun r9 u9 H locs h_20 hP hD hS => ?_)
      have hP : va_P D vwCl (wM q F (nI n) R 1 cI cZ) H := hP
      have hD : va_D A (wM q F (nI n) R 1 cI cZ) := hD
      obtain rfl : r9 = 0 := h_20.trans (by decide)
      refine lv_if_eq (x := 0) (tgt := 34) hx hb dX1_distance_23 (by decide) (fun _ => ?_) (fun k => absurd (by decide) k)
      refine lv_iconst (v := 0) hx hb dX1_distance_34 (by decide) ?_
      exact W.iret hx hb hr (fun t ht hW => ⟨⟨_, 1, rfl, (by show 1 = thD c1 c2 ∧ (1 = 0 → 0 = mApart c1 c2); have e9 : thD c1 c2 = 1 := (by simp [thD, c_5, c_12]); exact ⟨e9.symm, fun h9 => absurd h9 (by decide)⟩), by rw [ht]; exact hP, hD⟩, hS.F ht⟩) hS.2.2 dX1_distance_35
    · have c_12 := bi_n0.mp c_12
      refine lv_iconst (v := 0) hx hb dX1_distance_15 (by decide) ?_
      refine lv_goto (tgt := 20) hx hb dX1_distance_16 (by decide) ?_
      refine wr_V (As := [.int 0]) (rest := []) (wr := []) ⟨hx, hb, hml, hown, hts⟩ (c_X1_goes l D q F n R th cI cZ _ 0) (cwV 1 hts gX1_distance_X1_goes rfl rfl rfl (by decide +kernel) ⟨Nat.le_of_ble_eq_true rfl, Nat.le_of_ble_eq_true rfl⟩) hK hP hD hA [0, 1, 2, 3, 4, 5, 6, 7, 8, 9] [] rfl rfl (by decide) rfl (by decide) (by decide) (va_recv hK hP (ci := 1) (q0 := 0) rfl rfl) hS rfl hl.1 rfl (Nat.le_of_ble_eq_true rfl) dX1_distance_20 ⟨Nat.le_of_ble_eq_true rfl, Nat.le_of_ble_eq_true rfl⟩ (fun r9 u9 H locs h_20 hP hD hS => ?_)
      have hP : va_P D vwCl (wM q F (nI n) R 0 cI cZ) H := hP
      have hD : va_D A (wM q F (nI n) R 0 cI cZ) := hD
      obtain rfl : r9 = 1 := h_20.trans (by decide)
      refine lv_if_eq (x := 1) (tgt := 34) hx hb dX1_distance_23 (by decide) (fun k => absurd k (by decide)) (fun _ => ?_)
      refine lv_iload_n hx hb dX1_distance_26 rfl (lv_at hl 1 rfl) ?_
      refine lv_iload_n hx hb dX1_distance_27 rfl (lv_at hl 2 rfl) ?_
      refine ro_S (As := [.int c1, .int c2]) (rest := []) ⟨hx, hb, hml, hown, hts⟩ (c_X1_apart l c1 c2) (va_cwS 2 hts gX1_distance_X1_apart rfl rfl rfl (by decide +kernel) ⟨Nat.le_of_ble_eq_true rfl, Nat.le_of_ble_eq_true rfl⟩) hP hS rfl hl.1 rfl (Nat.le_of_ble_eq_true rfl) dX1_distance_28 ⟨Nat.le_of_ble_eq_true rfl, Nat.le_of_ble_eq_true rfl⟩ (fun r H locs hr9 hP hS => ?_)
      subst hr9
      refine lv_goto (tgt := 35) hx hb dX1_distance_31 (by decide) ?_
      exact W.iret hx hb hr (fun t ht hW => ⟨⟨_, 0, rfl, (by show 0 = thD c1 c2 ∧ (0 = 0 → (mApart c1 c2) = mApart c1 c2); have e9 : thD c1 c2 = 0 := (by simp [thD, c_5, c_12]); exact ⟨e9.symm, fun h9 => rfl⟩), by rw [ht]; exact hP, hD⟩, hS.F ht⟩) hS.2.2 dX1_distance_35

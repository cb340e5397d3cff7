/-! the reference: loops, calls that write -/
set_option maxHeartbeats 4000000 in
set_option maxRecDepth 100000 in
theorem c_X1_laysFoes (l : Launch) (D : va_G) (q : Nat → Nat) (F : Nat → Nat → Int32) (n : Nat) (R : Nat → Int32) (th : Int32) (cI cZ : ClassId) (sz : Nat) (hw : WF F n) : Met l yX1_laysFoes wsX1_laysFoes ({ frames := 6, cells := 0, slots := 0, locals := 136 }) (va_Pc [.ref (q 9)] (wS D (wM q F (nI n) R th cI cZ) (tIZ cI cZ) sz)) (va_Qv (fun (u : Nat → Int32) => ∀ j, j < n → u j = nI (mFoes F n j)) (wB D (va_A (wM q F (nI n) R th cI cZ) sz) (fun (u : Nat → Int32) => wM q F (nI n) u th cI cZ)) (va_A (wM q F (nI n) R th cI cZ) sz)) 0 0 (va_A (wM q F (nI n) R th cI cZ) sz) := by
  refine wrv_of (own := RX1) (cc := cX1_laysFoes) (maxL := 2) (ret := none) (by decide) rfl rfl (Nat.le_of_ble_eq_true rfl) ?_
  intro p9 e9 s m9 a9 below meth c9 ls A hx hb hr hml hlocks hown hts hP hK hD hA hl hnm
  have hin : ∀ w ∈ wsX10, w ∈ wsX1_laysFoes := by decide +kernel
  have f35 := hts (.fieldLink RX1 35 "DangerousGoodsModel" "foes" "[I") (by decide +kernel)
  have f46 := hts (.fieldLink RX1 46 "DangerousGoodsModel" "goods" "I") (by decide +kernel)
  have hS : va_S A s.heap s.heap [] := va_S.rf
  have hl : lv_has ls 2 [(0, .ref (q 9))] := hl
  refine lv_iconst (v := 0) hx hb dX1_laysFoes_0 (by decide) ?_
  refine lv_istore_n (lv' := [(1, .int 0), (0, .ref (q 9))]) hx hb dX1_laysFoes_1 rfl hl (by decide) rfl (fun ls hl => ?_)
  have L2 : ∀ (d9 : Nat) (k : Nat) (Rv : Nat → Int32) (H : Heap) (locs : List Loc) (ls : Array Slot), n - k < d9 → (k ≤ n) → (∀ j, j < k → Rv j = nI (mFoes F n j)) → va_P D vwCl (wM q F (nI n) Rv th cI cZ) H → va_D A (wM q F (nI n) Rv th cI cZ) → va_S A s.heap H locs → lv_has ls 2 [(1, .int (nI k)), (0, .ref (q 9))] → W p9 l e9 ({ frames := 6, cells := 0, slots := 0, locals := 136 }) s m9 a9 below meth c9 H locs 0 0 (MQ below (va_Qv (fun (u : Nat → Int32) => ∀ j, j < n → u j = nI (mFoes F n j)) (wB D A (fun (u : Nat → Int32) => wM q F (nI n) u th cI cZ)) A) a9 s 0 0 A) (F0 m9 2 ls []) := by
    intro d9
    induction d9 with
    | zero => intro k Rv H locs ls h9; exact absurd h9 (Nat.not_lt_zero _)
    | succ d9 ih2 =>
      intro k Rv H locs ls hd2 hk hA9 hP hD hS hl
      refine lv_iload_n hx hb dX1_laysFoes_2 rfl (lv_at hl 0 rfl) ?_
      refine lv_aload_n hx hb dX1_laysFoes_3 rfl (lv_at hl 1 rfl) ?_
      refine va_get (D := D) (ci := 1) (v := .int (nI n)) hx hb hts hin hown hK hP 0 rfl rfl 4 (by decide) f46 (fun _ h9 => h9) rfl dX1_laysFoes_4 ?_
      refine lv_icmp_ge (x := (nI k)) (y := (nI n)) (tgt := 27) hx hb dX1_laysFoes_7 (by decide) (fun c_7 => ?_) (fun c_7 => ?_)
      · have hk7 : k = n := Nat.le_antisymm hk (nI_ge_of c_7 (by have := hw.n; omega) (by have := hw.n; omega))
        exact W.vret hx hb hr (fun t ht hW => ⟨⟨Rv, rfl, (by show ∀ j, j < n → Rv j = nI (mFoes F n j); intro j hj; exact hA9 j (by omega)), by rw [ht]; exact hP, hD⟩, hS.F ht⟩) hS.2.2 dX1_laysFoes_27
      · have hk7 : k < n := nI_lt_of c_7 (by have := hw.n; omega)
        refine lv_aload_n hx hb dX1_laysFoes_10 rfl (lv_at hl 1 rfl) ?_
        refine va_get (D := D) (ci := 1) (v := .ref (q 8)) hx hb hts hin hown hK hP 0 rfl rfl 9 (by decide) f35 (fun _ h9 => h9) rfl dX1_laysFoes_11 ?_
        refine lv_iload_n hx hb dX1_laysFoes_14 rfl (lv_at hl 0 rfl) ?_
        refine lv_aload_n hx hb dX1_laysFoes_15 rfl (lv_at hl 1 rfl) ?_
        refine lv_iload_n hx hb dX1_laysFoes_16 rfl (lv_at hl 0 rfl) ?_
        refine ro_V (As := [.int (nI k)]) (rest := [.int (nI k), .ref (q 8)]) ⟨hx, hb, hml, hown, hts⟩ (c_X1_foesOf l D q F n Rv th cI cZ k hw hk7) (cwV 1 hts gX1_laysFoes_X1_foesOf rfl rfl rfl (by decide +kernel) ⟨Nat.le_of_ble_eq_true rfl, Nat.le_of_ble_eq_true rfl⟩) hK hP hP (va_recv hK hP (ci := 1) (q0 := 0) rfl rfl) hS rfl hl.1 rfl (Nat.le_of_ble_eq_true rfl) dX1_laysFoes_17 ⟨Nat.le_of_ble_eq_true rfl, Nat.le_of_ble_eq_true rfl⟩ (fun r H locs hr9 hP hS => ?_)
        subst hr9
        refine xiast hx hb hK hP hD hS 9 0 rfl rfl (g := k) (x := (nI (mFoes F n k))) (hw.g hk7) (by decide) dX1_laysFoes_20 (fun H locs hP hD hS => ?_)
        have hP : va_P D vwCl (wM q F (nI n) (upd (Rv) k (nI (mFoes F n k))) th cI cZ) H := hP
        have hD : va_D A (wM q F (nI n) (upd (Rv) k (nI (mFoes F n k))) th cI cZ) := hD
        refine lv_iinc (v := (nI (k + 1))) (lv' := [(1, .int (nI (k + 1))), (0, .ref (q 9))]) hx hb dX1_laysFoes_21 hl (k := 0) rfl (nI_1 k) (by decide) rfl (fun ls hl => ?_)
        refine lv_goto (tgt := 2) hx hb dX1_laysFoes_24 (by decide) ?_
        exact ih2 (k + 1) (upd (Rv) k (nI (mFoes F n k))) _ _ _ (by omega) (by omega) (rw_s hA9) hP hD hS (lv_sub hl [0, 1] rfl)
  exact L2 _ 0 R _ _ _ (Nat.lt_succ_self _) (Nat.zero_le _) (fun j hj => absurd hj (Nat.not_lt_zero _)) hP hD hS (lv_sub hl [0, 1] rfl)
set_option maxHeartbeats 4000000 in
set_option maxRecDepth 100000 in
theorem c_X1_isClean (l : Launch) (D : va_G) (q : Nat → Nat) (F : Nat → Nat → Int32) (n : Nat) (R : Nat → Int32) (th : Int32) (cI cZ : ClassId) (sz : Nat) (hw : WF F n) : Met l yX1_isClean wsX1_isClean ({ frames := 7, cells := 0, slots := 0, locals := 157 }) (va_Pc [.ref (q 9)] (wS D (wM q F (nI n) R th cI cZ) (tIZ cI cZ) sz)) (va_Qi (fun (r : Int32) (u : Int32 × (Nat → Int32)) => u.1 = 0 ∧ r = bi (mOk F n 0)) (wB D (va_A (wM q F (nI n) R th cI cZ) sz) (fun (u : Int32 × (Nat → Int32)) => wM q F (nI n) u.2 u.1 cI cZ)) (va_A (wM q F (nI n) R th cI cZ) sz)) 0 0 (va_A (wM q F (nI n) R th cI cZ) sz) := by
  refine wr_of (own := RX1) (cc := cX1_isClean) (maxL := 1) (ret := (some .boolean)) (by decide) rfl rfl (Nat.le_of_ble_eq_true rfl) ?_
  intro p9 e9 s m9 a9 below meth c9 ls A hx hb hr hml hlocks hown hts hP hK hD hA hl
  have hin : ∀ w ∈ wsX10, w ∈ wsX1_isClean := by decide +kernel
  have f38 := hts (.fieldLink RX1 38 "DangerousGoodsModel" "thrown" "I") (by decide +kernel)
  have hS : va_S A s.heap s.heap [] := va_S.rf
  have hl : lv_has ls 1 [(0, .ref (q 9))] := hl
  refine lv_aload_n hx hb dX1_isClean_0 rfl (lv_at hl 0 rfl) ?_
  refine lv_iconst (v := 0) hx hb dX1_isClean_1 (by decide) ?_
  refine va_put (D := D) (ci := 1) (v := .int 0) (ty := .int) hx hb hts hin tyX1 tyX1_ok nmX1 hown hK hP hD hS 0 rfl rfl 10 (by decide) f38 (fun _ h9 => h9) rfl (by decide +kernel) rfl rfl (Nat.le_of_ble_eq_true rfl) dX1_isClean_2 (fun H locs hP hD hS => ?_)
  have hP : va_P D vwCl (wM q F (nI n) R 0 cI cZ) H := hP
  have hD : va_D A (wM q F (nI n) R 0 cI cZ) := hD
  refine lv_aload_n hx hb dX1_isClean_5 rfl (lv_at hl 0 rfl) ?_
  refine wr_Vv (As := []) (rest := []) (wr := []) ⟨hx, hb, hml, hown, hts⟩ (c_X1_laysFoes l D q F n R 0 cI cZ _ hw) (cwV 0 hts gX1_isClean_X1_laysFoes rfl rfl rfl (by decide +kernel) ⟨Nat.le_of_ble_eq_true rfl, Nat.le_of_ble_eq_true rfl⟩) hK hP hD hA [0, 1, 2, 3, 4, 5, 6, 7, 8, 9] [] rfl rfl (by decide) rfl (by decide) (by decide) (va_recv hK hP (ci := 1) (q0 := 0) rfl rfl) hS rfl hl.1 rfl (Nat.le_of_ble_eq_true rfl) dX1_isClean_6 ⟨Nat.le_of_ble_eq_true rfl, Nat.le_of_ble_eq_true rfl⟩ (fun u9 H locs h_6 hP hD hS => ?_)
  have hP : va_P D vwCl (wM q F (nI n) u9 0 cI cZ) H := hP
  have hD : va_D A (wM q F (nI n) u9 0 cI cZ) := hD
  refine lv_aload_n hx hb dX1_isClean_9 rfl (lv_at hl 0 rfl) ?_
  refine lv_iconst (v := 0) hx hb dX1_isClean_10 (by decide) ?_
  refine W.eq (g2 := F0 m9 11 ls (.int (nI 0) :: [.ref (q 9)])) (congrArg (fun z => F0 m9 11 ls (Value.int z :: [.ref (q 9)])) (show (0 : Int32) = nI 0 from rfl)) ?_
  refine lv_aload_n hx hb dX1_isClean_11 rfl (lv_at hl 0 rfl) ?_
  refine ro_V (As := []) (rest := [.int (nI 0), .ref (q 9)]) ⟨hx, hb, hml, hown, hts⟩ (c_X1_wrongs l D q F n u9 0 cI cZ hw) (cwV 0 hts gX1_isClean_X1_wrongs rfl rfl rfl (by decide +kernel) ⟨Nat.le_of_ble_eq_true rfl, Nat.le_of_ble_eq_true rfl⟩) hK hP hP (va_recv hK hP (ci := 1) (q0 := 0) rfl rfl) hS rfl hl.1 rfl (Nat.le_of_ble_eq_true rfl) dX1_isClean_12 ⟨Nat.le_of_ble_eq_true rfl, Nat.le_of_ble_eq_true rfl⟩ (fun r H locs hr9 hP hS => ?_)
  subst hr9
  refine ro_V (As := [.int (nI 0), .int (nI (mWrongs F n))]) (rest := []) ⟨hx, hb, hml, hown, hts⟩ (c_X1_isCleanWithout l D q F n u9 0 cI cZ 0 (mWrongs F n) (fun j => mFoes F n j) (fun j hj => ⟨h_6 j hj, bs_16 hw.n⟩) hw.n (by decide) (bs_16 hw.n)) (cwV 2 hts gX1_isClean_X1_isCleanWithout rfl rfl rfl (by decide +kernel) ⟨Nat.le_of_ble_eq_true rfl, Nat.le_of_ble_eq_true rfl⟩) hK hP hP (va_recv hK hP (ci := 1) (q0 := 0) rfl rfl) hS rfl hl.1 rfl (Nat.le_of_ble_eq_true rfl) dX1_isClean_15 ⟨Nat.le_of_ble_eq_true rfl, Nat.le_of_ble_eq_true rfl⟩ (fun r H locs hr9 hP hS => ?_)
  subst hr9
  exact W.zret hx hb hr (bi_nar _) (fun t ht hW => ⟨⟨_, (0, u9), rfl, (by show (0, u9).1 = 0 ∧ (bi (cwK (fun j => mFoes F n j) 0 (mWrongs F n) n)) = bi (mOk F n 0); exact ⟨rfl, rfl⟩), by rw [ht]; exact hP, hD⟩, hS.F ht⟩) hS.2.2 dX1_isClean_18
set_option maxHeartbeats 4000000 in
set_option maxRecDepth 100000 in
theorem c_X1_canPut (l : Launch) (D : va_G) (q : Nat → Nat) (F : Nat → Nat → Int32) (n : Nat) (R : Nat → Int32) (th : Int32) (cI cZ : ClassId) (sz : Nat) (v : Int32) (p1 : Int32) (hw : WF F n) : Met l yX1_canPut wsX1_canPut ({ frames := 6, cells := 0, slots := 0, locals := 137 }) (va_Pc [.ref (q 9), .int v, .int p1] (wS D (wM q F (nI n) R th cI cZ) (tIZ cI cZ) sz)) (va_Qi (fun (r : Int32) (u : Int32) => u = thCP n v p1 ∧ (u = 0 → r = bi (mGood F n (gi v) p1))) (wB D (va_A (wM q F (nI n) R th cI cZ) sz) (fun (u : Int32) => wM q F (nI n) R u cI cZ)) (va_A (wM q F (nI n) R th cI cZ) sz)) 0 0 (va_A (wM q F (nI n) R th cI cZ) sz) := by
  refine wr_of (own := RX1) (cc := cX1_canPut) (maxL := 3) (ret := (some .boolean)) (by decide) rfl rfl (Nat.le_of_ble_eq_true rfl) ?_
  intro p9 e9 s m9 a9 below meth c9 ls A hx hb hr hml hlocks hown hts hP hK hD hA hl
  have hS : va_S A s.heap s.heap [] := va_S.rf
  have hl : lv_has ls 3 [(0, .ref (q 9)), (1, .int v), (2, .int p1)] := hl
  refine lv_aload_n hx hb dX1_canPut_0 rfl (lv_at hl 0 rfl) ?_
  refine lv_aload_n hx hb dX1_canPut_1 rfl (lv_at hl 0 rfl) ?_
  refine lv_iload_n hx hb dX1_canPut_2 rfl (lv_at hl 1 rfl) ?_
  refine ro_V (As := [.int v]) (rest := [.ref (q 9)]) ⟨hx, hb, hml, hown, hts⟩ (c_X1_areGoods l D q F n R th cI cZ v) (cwV 1 hts gX1_canPut_X1_areGoods rfl rfl rfl (by decide +kernel) ⟨Nat.le_of_ble_eq_true rfl, Nat.le_of_ble_eq_true rfl⟩) hK hP hP (va_recv hK hP (ci := 1) (q0 := 0) rfl rfl) hS rfl hl.1 rfl (Nat.le_of_ble_eq_true rfl) dX1_canPut_3 ⟨Nat.le_of_ble_eq_true rfl, Nat.le_of_ble_eq_true rfl⟩ (fun r H locs hr9 hP hS => ?_)
  subst hr9
  refine lv_if_ne (x := (bi (mIn v 0 (nI n - 1)))) (tgt := 13) hx hb dX1_canPut_6 (by decide) (fun c_6 => ?_) (fun c_6 => ?_)
  · have c_6 := bi_n0.mp c_6
    obtain ⟨g, hg, ev⟩ := (gd_iff hw.n).mp c_6
    have eg : gi v = g := by rw [ev]; exact gi_nI (by have := hw.n; omega)
    refine lv_iload_n hx hb dX1_canPut_13 rfl (lv_at hl 2 rfl) ?_
    refine ro_S (As := [.int p1]) (rest := [.ref (q 9)]) ⟨hx, hb, hml, hown, hts⟩ (c_X1_isPlace l p1) (va_cwS 1 hts gX1_canPut_X1_isPlace rfl rfl rfl (by decide +kernel) ⟨Nat.le_of_ble_eq_true rfl, Nat.le_of_ble_eq_true rfl⟩) hP hS rfl hl.1 rfl (Nat.le_of_ble_eq_true rfl) dX1_canPut_14 ⟨Nat.le_of_ble_eq_true rfl, Nat.le_of_ble_eq_true rfl⟩ (fun r H locs hr9 hP hS => ?_)
    subst hr9
    refine lv_if_eq (x := (bi (mIn p1 0 47))) (tgt := 24) hx hb dX1_canPut_17 (by decide) (fun c_17 => ?_) (fun c_17 => ?_)
    · have c_17 := bi_e0.mp c_17
      refine lv_iconst (v := 2) hx hb dX1_canPut_24 (by decide) ?_
      refine wr_V (As := [.int 2]) (rest := []) (wr := []) ⟨hx, hb, hml, hown, hts⟩ (c_X1_goes l D q F n R th cI cZ _ 2) (cwV 1 hts gX1_canPut_X1_goes rfl rfl rfl (by decide +kernel) ⟨Nat.le_of_ble_eq_true rfl, Nat.le_of_ble_eq_true rfl⟩) hK hP hD hA [0, 1, 2, 3, 4, 5, 6, 7, 8, 9] [] rfl rfl (by decide) rfl (by decide) (by decide) (va_recv hK hP (ci := 1) (q0 := 0) rfl rfl) hS rfl hl.1 rfl (Nat.le_of_ble_eq_true rfl) dX1_canPut_25 ⟨Nat.le_of_ble_eq_true rfl, Nat.le_of_ble_eq_true rfl⟩ (fun r9 u9 H locs h_25 hP hD hS => ?_)
      have hP : va_P D vwCl (wM q F (nI n) R 2 cI cZ) H := hP
      have hD : va_D A (wM q F (nI n) R 2 cI cZ) := hD
      obtain rfl : r9 = 0 := h_25.trans (by decide)
      refine lv_if_eq (x := 0) (tgt := 44) hx hb dX1_canPut_28 (by decide) (fun _ => ?_) (fun k => absurd (by decide) k)
      refine lv_iconst (v := 0) hx hb dX1_canPut_44 (by decide) ?_
      exact W.zret hx hb hr zn0 (fun t ht hW => ⟨⟨_, 2, rfl, (by show 2 = thCP n v p1 ∧ (2 = 0 → 0 = bi (mGood F n (gi v) p1)); have e9 : thCP n v p1 = 2 := (by simp [thCP, c_6, c_17]); exact ⟨e9.symm, fun h9 => absurd h9 (by decide)⟩), by rw [ht]; exact hP, hD⟩, hS.F ht⟩) hS.2.2 dX1_canPut_45
    · have c_17 := bi_n0.mp c_17
      refine lv_iconst (v := 0) hx hb dX1_canPut_20 (by decide) ?_
      refine lv_goto (tgt := 25) hx hb dX1_canPut_21 (by decide) ?_
      refine wr_V (As := [.int 0]) (rest := []) (wr := []) ⟨hx, hb, hml, hown, hts⟩ (c_X1_goes l D q F n R th cI cZ _ 0) (cwV 1 hts gX1_canPut_X1_goes rfl rfl rfl (by decide +kernel) ⟨Nat.le_of_ble_eq_true rfl, Nat.le_of_ble_eq_true rfl⟩) hK hP hD hA [0, 1, 2, 3, 4, 5, 6, 7, 8, 9] [] rfl rfl (by decide) rfl (by decide) (by decide) (va_recv hK hP (ci := 1) (q0 := 0) rfl rfl) hS rfl hl.1 rfl (Nat.le_of_ble_eq_true rfl) dX1_canPut_25 ⟨Nat.le_of_ble_eq_true rfl, Nat.le_of_ble_eq_true rfl⟩ (fun r9 u9 H locs h_25 hP hD hS => ?_)
      have hP : va_P D vwCl (wM q F (nI n) R 0 cI cZ) H := hP
      have hD : va_D A (wM q F (nI n) R 0 cI cZ) := hD
      obtain rfl : r9 = 1 := h_25.trans (by decide)
      refine lv_if_eq (x := 1) (tgt := 44) hx hb dX1_canPut_28 (by decide) (fun k => absurd k (by decide)) (fun _ => ?_)
      rw [ev] at hl
      refine lv_aload_n hx hb dX1_canPut_31 rfl (lv_at hl 0 rfl) ?_
      refine lv_iload_n hx hb dX1_canPut_32 rfl (lv_at hl 1 rfl) ?_
      refine lv_iload_n hx hb dX1_canPut_33 rfl (lv_at hl 2 rfl) ?_
      refine ro_V (As := [.int (nI g), .int p1]) (rest := []) ⟨hx, hb, hml, hown, hts⟩ (c_X1_isGood l D q F n R 0 cI cZ g p1 hw hg (pl_okP c_17) (pl_ne c_17)) (cwV 2 hts gX1_canPut_X1_isGood rfl rfl rfl (by decide +kernel) ⟨Nat.le_of_ble_eq_true rfl, Nat.le_of_ble_eq_true rfl⟩) hK hP hP (va_recv hK hP (ci := 1) (q0 := 0) rfl rfl) hS rfl hl.1 rfl (Nat.le_of_ble_eq_true rfl) dX1_canPut_34 ⟨Nat.le_of_ble_eq_true rfl, Nat.le_of_ble_eq_true rfl⟩ (fun r H locs hr9 hP hS => ?_)
      subst hr9
      refine lv_if_eq (x := (bi (mGood F n g p1))) (tgt := 44) hx hb dX1_canPut_37 (by decide) (fun c_37 => ?_) (fun c_37 => ?_)
      · have c_37 := bi_e0.mp c_37
        refine lv_iconst (v := 0) hx hb dX1_canPut_44 (by decide) ?_
        exact W.zret hx hb hr zn0 (fun t ht hW => ⟨⟨_, 0, rfl, (by show 0 = thCP n v p1 ∧ (0 = 0 → 0 = bi (mGood F n (gi v) p1)); have e9 : thCP n v p1 = 0 := (by simp [thCP, c_6, c_17]); refine ⟨e9.symm, fun _ => ?_⟩; rw [eg]; simp [bi, c_37]), by rw [ht]; exact hP, hD⟩, hS.F ht⟩) hS.2.2 dX1_canPut_45
      · have c_37 := bi_n0.mp c_37
        refine lv_iconst (v := 1) hx hb dX1_canPut_40 (by decide) ?_
        refine lv_goto (tgt := 45) hx hb dX1_canPut_41 (by decide) ?_
        exact W.zret hx hb hr zn1 (fun t ht hW => ⟨⟨_, 0, rfl, (by show 0 = thCP n v p1 ∧ (0 = 0 → 1 = bi (mGood F n (gi v) p1)); have e9 : thCP n v p1 = 0 := (by simp [thCP, c_6, c_17]); refine ⟨e9.symm, fun _ => ?_⟩; rw [eg]; simp [bi, c_37]), by rw [ht]; exact hP, hD⟩, hS.F ht⟩) hS.2.2 dX1_canPut_45
  · have c_6 := bi_e0.mp c_6
    refine lv_iconst (v := 1) hx hb dX1_canPut_9 (by decide) ?_
    refine lv_goto (tgt := 25) hx hb dX1_canPut_10 (by decide) ?_
    refine wr_V (As := [.int 1]) (rest := []) (wr := []) ⟨hx, hb, hml, hown, hts⟩ (c_X1_goes l D q F n R th cI cZ _ 1) (cwV 1 hts gX1_canPut_X1_goes rfl rfl rfl (by decide +kernel) ⟨Nat.le_of_ble_eq_true rfl, Nat.le_of_ble_eq_true rfl⟩) hK hP hD hA [0, 1, 2, 3, 4, 5, 6, 7, 8, 9] [] rfl rfl (by decide) rfl (by decide) (by decide) (va_recv hK hP (ci := 1) (q0 := 0) rfl rfl) hS rfl hl.1 rfl (Nat.le_of_ble_eq_true rfl) dX1_canPut_25 ⟨Nat.le_of_ble_eq_true rfl, Nat.le_of_ble_eq_true rfl⟩ (fun r9 u9 H locs h_25 hP hD hS => ?_)
    have hP : va_P D vwCl (wM q F (nI n) R 1 cI cZ) H := hP
    have hD : va_D A (wM q F (nI n) R 1 cI cZ) := hD
    obtain rfl : r9 = 0 := h_25.trans (by decide)
    refine lv_if_eq (x := 0) (tgt := 44) hx hb dX1_canPut_28 (by decide) (fun _ => ?_) (fun k => absurd (by decide) k)
    refine lv_iconst (v := 0) hx hb dX1_canPut_44 (by decide) ?_
    exact W.zret hx hb hr zn0 (fun t ht hW => ⟨⟨_, 1, rfl, (by show 1 = thCP n v p1 ∧ (1 = 0 → 0 = bi (mGood F n (gi v) p1)); have e9 : thCP n v p1 = 1 := (by simp [thCP, c_6]); exact ⟨e9.symm, fun h9 => absurd h9 (by decide)⟩), by rw [ht]; exact hP, hD⟩, hS.F ht⟩) hS.2.2 dX1_canPut_45
set_option maxHeartbeats 4000000 in
set_option maxRecDepth 100000 in
theorem c_X1_placeFor (l : Launch) (D : va_G) (q : Nat → Nat) (F : Nat → Nat → Int32) (n : Nat) (R : Nat → Int32) (th : Int32) (cI cZ : ClassId) (sz : Nat) (v : Int32) (hw : WF F n) : Met l yX1_placeFor wsX1_placeFor ({ frames := 6, cells := 0, slots := 0, locals := 137 }) (va_Pc [.ref (q 9), .int v] (wS D (wM q F (nI n) R th cI cZ) (tIZ cI cZ) sz)) (va_Qi (fun (r : Int32) (u : Int32) => u = th1 n v ∧ (u = 0 → isLow (fun k => mGood F n (gi v) (nI k)) r)) (wB D (va_A (wM q F (nI n) R th cI cZ) sz) (fun (u : Int32) => wM q F (nI n) R u cI cZ)) (va_A (wM q F (nI n) R th cI cZ) sz)) 0 0 (va_A (wM q F (nI n) R th cI cZ) sz) := by
  refine wr_of (own := RX1) (cc := cX1_placeFor) (maxL := 4) (ret := (some .int)) (by decide) rfl rfl (Nat.le_of_ble_eq_true rfl) ?_
  intro p9 e9 s m9 a9 below meth c9 ls A hx hb hr hml hlocks hown hts hP hK hD hA hl
  have hS : va_S A s.heap s.heap [] := va_S.rf
  have hl : lv_has ls 4 [(0, .ref (q 9)), (1, .int v)] := hl
  refine lv_aload_n hx hb dX1_placeFor_0 rfl (lv_at hl 0 rfl) ?_
  refine lv_iload_n hx hb dX1_placeFor_1 rfl (lv_at hl 1 rfl) ?_
  refine wr_V (As := [.int v]) (rest := []) (wr := []) ⟨hx, hb, hml, hown, hts⟩ (c_X1_asks l D q F n R th cI cZ _ v) (cwV 1 hts gX1_placeFor_X1_asks rfl rfl rfl (by decide +kernel) ⟨Nat.le_of_ble_eq_true rfl, Nat.le_of_ble_eq_true rfl⟩) hK hP hD hA [0, 1, 2, 3, 4, 5, 6, 7, 8, 9] [] rfl rfl (by decide) rfl (by decide) (by decide) (va_recv hK hP (ci := 1) (q0 := 0) rfl rfl) hS rfl hl.1 rfl (Nat.le_of_ble_eq_true rfl) dX1_placeFor_2 ⟨Nat.le_of_ble_eq_true rfl, Nat.le_of_ble_eq_true rfl⟩ (fun r9 u9 H locs h_2 hP hD hS => ?_)
  have hP : va_P D vwCl (wM q F (nI n) R u9 cI cZ) H := hP
  have hD : va_D A (wM q F (nI n) R u9 cI cZ) := hD
  obtain ⟨rfl, rfl⟩ := h_2
  have hP : va_P D vwCl (wM q F (nI n) R (th1 n v) cI cZ) H := hP
  have hD : va_D A (wM q F (nI n) R (th1 n v) cI cZ) := hD
  refine lv_if_ne (x := (bi (z0 (th1 n v)))) (tgt := 10) hx hb dX1_placeFor_5 (by decide) (fun c_5 => ?_) (fun c_5 => ?_)
  · have c_5 := bi_n0.mp c_5
    obtain ⟨g, hg, ev⟩ := (gd_iff hw.n).mp (th1_of c_5)
    have eg : gi v = g := by rw [ev]; exact gi_nI (by have := hw.n; omega)
    rw [ev] at hl
    refine lv_iconst (v := (-1)) hx hb dX1_placeFor_10 (by decide) ?_
    refine lv_istore_n (lv' := [(2, .int (-1)), (0, .ref (q 9)), (1, .int (nI g))]) hx hb dX1_placeFor_11 rfl hl (by decide) rfl (fun ls hl => ?_)
    refine lv_bipush (v := 47) hx hb dX1_placeFor_12 (by decide) ?_
    refine lv_istore_n (lv' := [(3, .int 47), (2, .int (-1)), (0, .ref (q 9)), (1, .int (nI g))]) hx hb dX1_placeFor_14 rfl hl (by decide) rfl (fun ls hl => ?_)
    have L15 : ∀ (d9 : Nat) (j : Nat) (fnd : Int32) (H : Heap) (locs : List Loc) (ls : Array Slot), j < d9 → (j ≤ 48) → (lowFrom (fun k => mGood F n g (nI k)) j fnd) → va_P D vwCl (wM q F (nI n) R (th1 n v) cI cZ) H → va_D A (wM q F (nI n) R (th1 n v) cI cZ) → va_S A s.heap H locs → lv_has ls 4 [(3, .int (gI j)), (2, .int fnd), (0, .ref (q 9)), (1, .int (nI g))] → W p9 l e9 ({ frames := 6, cells := 0, slots := 0, locals := 137 }) s m9 a9 below meth c9 H locs 0 0 (MQ below (va_Qi (fun (r : Int32) (u : Int32) => u = th1 n v ∧ (u = 0 → isLow (fun k => mGood F n (gi v) (nI k)) r)) (wB D A (fun (u : Int32) => wM q F (nI n) R u cI cZ)) A) a9 s 0 0 A) (F0 m9 15 ls []) := by
      intro d9
      induction d9 with
      | zero => intro j fnd H locs ls h9; exact absurd h9 (Nat.not_lt_zero _)
      | succ d9 ih15 =>
        intro j fnd H locs ls hd15 hj hlo hP hD hS hl
        refine lv_iload_n hx hb dX1_placeFor_15 rfl (lv_at hl 0 rfl) ?_
        refine lv_if_lt (x := (gI j)) (tgt := 40) hx hb dX1_placeFor_16 (by decide) (fun c_16 => ?_) (fun c_16 => ?_)
        · have hj0 : j = 0 := (gI_neg (by omega)).mp c_16
          refine lv_iload_n hx hb dX1_placeFor_40 rfl (lv_at hl 1 rfl) ?_
          exact W.iret hx hb hr (fun t ht hW => ⟨⟨_, (th1 n v), rfl, (by show (th1 n v) = th1 n v ∧ ((th1 n v) = 0 → isLow (fun k => mGood F n (gi v) (nI k)) fnd); refine ⟨rfl, fun _ => ?_⟩; rw [eg]; exact lowFrom_0 (by rw [← hj0]; exact hlo)), by rw [ht]; exact hP, hD⟩, hS.F ht⟩) hS.2.2 dX1_placeFor_41
        · obtain ⟨i, rfl⟩ : ∃ i, j = i + 1 := ⟨j - 1, by have : ¬ j = 0 := fun e => c_16 ((gI_neg (by omega)).mpr e); omega⟩
          have hl : lv_has ls 4 [(3, .int (nI i)), (2, .int fnd), (0, .ref (q 9)), (1, .int (nI g))] := hl
          refine lv_aload_n hx hb dX1_placeFor_19 rfl (lv_at hl 2 rfl) ?_
          refine lv_iload_n hx hb dX1_placeFor_20 rfl (lv_at hl 3 rfl) ?_
          refine lv_iload_n hx hb dX1_placeFor_21 rfl (lv_at hl 0 rfl) ?_
          refine ro_V (As := [.int (nI g), .int (nI i)]) (rest := []) ⟨hx, hb, hml, hown, hts⟩ (c_X1_isGood l D q F n R (th1 n v) cI cZ g (nI i) hw hg (Or.inr ⟨i, by omega, rfl⟩) (nI_ne_m1 (by omega))) (cwV 2 hts gX1_placeFor_X1_isGood rfl rfl rfl (by decide +kernel) ⟨Nat.le_of_ble_eq_true rfl, Nat.le_of_ble_eq_true rfl⟩) hK hP hP (va_recv hK hP (ci := 1) (q0 := 0) rfl rfl) hS rfl hl.1 rfl (Nat.le_of_ble_eq_true rfl) dX1_placeFor_22 ⟨Nat.le_of_ble_eq_true rfl, Nat.le_of_ble_eq_true rfl⟩ (fun r H locs hr9 hP hS => ?_)
          subst hr9
          refine lv_if_eq (x := (bi (mGood F n g (nI i)))) (tgt := 32) hx hb dX1_placeFor_25 (by decide) (fun c_25 => ?_) (fun c_25 => ?_)
          · have c_25 := bi_e0.mp c_25
            refine lv_iload_n hx hb dX1_placeFor_32 rfl (lv_at hl 1 rfl) ?_
            refine lv_istore_n (lv' := [(2, .int fnd), (3, .int (nI i)), (0, .ref (q 9)), (1, .int (nI g))]) hx hb dX1_placeFor_33 rfl hl (by decide) rfl (fun ls hl => ?_)
            refine lv_iinc (v := (gI i)) (lv' := [(3, .int (gI i)), (2, .int fnd), (0, .ref (q 9)), (1, .int (nI g))]) hx hb dX1_placeFor_34 hl (k := 1) rfl (gI_dec i) (by decide) rfl (fun ls hl => ?_)
            refine lv_goto (tgt := 15) hx hb dX1_placeFor_37 (by decide) ?_
            exact ih15 i _ _ _ _ (by omega) (by omega) (lowFrom_f c_25 hlo) hP hD hS (lv_sub hl [0, 1, 2, 3] rfl)
          · have c_25 := bi_n0.mp c_25
            refine lv_iload_n hx hb dX1_placeFor_28 rfl (lv_at hl 0 rfl) ?_
            refine lv_goto (tgt := 33) hx hb dX1_placeFor_29 (by decide) ?_
            refine lv_istore_n (lv' := [(2, .int (nI i)), (3, .int (nI i)), (0, .ref (q 9)), (1, .int (nI g))]) hx hb dX1_placeFor_33 rfl hl (by decide) rfl (fun ls hl => ?_)
            refine lv_iinc (v := (gI i)) (lv' := [(3, .int (gI i)), (2, .int (nI i)), (0, .ref (q 9)), (1, .int (nI g))]) hx hb dX1_placeFor_34 hl (k := 1) rfl (gI_dec i) (by decide) rfl (fun ls hl => ?_)
            refine lv_goto (tgt := 15) hx hb dX1_placeFor_37 (by decide) ?_
            exact ih15 i _ _ _ _ (by omega) (by omega) (lowFrom_t (by omega) c_25) hP hD hS (lv_sub hl [0, 1, 2, 3] rfl)
    exact L15 _ 48 (-1) _ _ _ (Nat.lt_succ_self _) (Nat.le_refl _) (Or.inl ⟨rfl, fun k h1 h2 => absurd h2 (by omega)⟩) hP hD hS (lv_sub hl [0, 1, 2, 3] rfl)
  · have c_5 := bi_e0.mp c_5
    refine lv_iconst (v := 0) hx hb dX1_placeFor_8 (by decide) ?_
    exact W.iret hx hb hr (fun t ht hW => ⟨⟨_, (th1 n v), rfl, (by show (th1 n v) = th1 n v ∧ ((th1 n v) = 0 → isLow (fun k => mGood F n (gi v) (nI k)) 0); refine ⟨rfl, fun h9 => absurd h9 (z0_f c_5)⟩), by rw [ht]; exact hP, hD⟩, hS.F ht⟩) hS.2.2 dX1_placeFor_9

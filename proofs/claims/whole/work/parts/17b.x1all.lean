/-! the reference: loops, calls that write -/
set_option maxHeartbeats 4000000 in
set_option maxRecDepth 100000 in
theorem c_X1_isGood (l : Launch) (D : va_G) (q : Nat → Nat) (F : Nat → Nat → Int32) (n : Nat) (R : Nat → Int32) (th : Int32) (cI cZ : ClassId) (g : Nat) (p : Int32) (hw : WF F n) (hg : g < n) (hp : okP p) (hp1 : ¬ p = -1) : Met l yX1_isGood wsX1_isGood ({ frames := 5, cells := 0, slots := 0, locals := 113 }) (va_Pc [.ref (q 9), .int (nI g), .int p] (rW D (wM q F (nI n) R th cI cZ) (tIZ cI cZ))) (RO (fun r => r = bi (mGood F n g p))) 0 0 nA := by
  refine ro_of (own := RX1) (cc := cX1_isGood) (maxL := 5) (ret := (some .boolean)) (by decide) rfl rfl (Nat.le_of_ble_eq_true rfl) ?_
  intro p9 e9 s m9 a9 below meth c9 ls hx hb hr hml hlocks hown hts hP hK hl
  have hin : ∀ w ∈ wsX10, w ∈ wsX1_isGood := by decide +kernel
  have f46 := hts (.fieldLink RX1 46 "DangerousGoodsModel" "goods" "I") (by decide +kernel)
  have hS : va_S nA s.heap s.heap [] := va_S.rf
  have hl : lv_has ls 5 [(0, .ref (q 9)), (1, .int (nI g)), (2, .int p)] := hl
  refine lv_aload_n hx hb dX1_isGood_0 rfl (lv_at hl 0 rfl) ?_
  refine lv_iload_n hx hb dX1_isGood_1 rfl (lv_at hl 1 rfl) ?_
  refine lv_iload_n hx hb dX1_isGood_2 rfl (lv_at hl 2 rfl) ?_
  refine ro_V (As := [.int (nI g), .int p]) (rest := []) ⟨hx, hb, hml, hown, hts⟩ (c_X1_areWrong l D q F n R th cI cZ g p hw hg hp hp1) (cwV 2 hts gX1_isGood_X1_areWrong rfl rfl rfl (by decide +kernel) ⟨Nat.le_of_ble_eq_true rfl, Nat.le_of_ble_eq_true rfl⟩) hK hP hP (va_recv hK hP (ci := 1) (q0 := 0) rfl rfl) hS rfl hl.1 rfl (Nat.le_of_ble_eq_true rfl) dX1_isGood_3 ⟨Nat.le_of_ble_eq_true rfl, Nat.le_of_ble_eq_true rfl⟩ (fun r H locs hr9 hP hS => ?_)
  subst hr9
  refine lv_if_ne (x := (bi (mWrong F g p))) (tgt := 13) hx hb dX1_isGood_6 (by decide) (fun c_6 => ?_) (fun c_6 => ?_)
  · have c_6 := bi_n0.mp c_6
    refine lv_iconst (v := 0) hx hb dX1_isGood_13 (by decide) ?_
    refine lv_istore_n (lv' := [(3, .int 0), (0, .ref (q 9)), (1, .int (nI g)), (2, .int p)]) hx hb dX1_isGood_14 rfl hl (by decide) rfl (fun ls hl => ?_)
    refine lv_iconst (v := 0) hx hb dX1_isGood_15 (by decide) ?_
    refine lv_istore (lv' := [(4, .int 0), (3, .int 0), (0, .ref (q 9)), (1, .int (nI g)), (2, .int p)]) hx hb dX1_isGood_16 hl (by decide) rfl (fun ls hl => ?_)
    have L18 : ∀ (d9 : Nat) (k : Nat) (H : Heap) (locs : List Loc) (ls : Array Slot), n - k < d9 → (k ≤ n) → va_P D vwCl (wM q F (nI n) R th cI cZ) H → va_S nA s.heap H locs → lv_has ls 5 [(4, .int (nI k)), (3, .int (bi (gdK F g p k))), (0, .ref (q 9)), (1, .int (nI g)), (2, .int p)] → W p9 l e9 ({ frames := 5, cells := 0, slots := 0, locals := 113 }) s m9 a9 below meth c9 H locs 0 0 (MQ below (RO (fun r => r = bi (mGood F n g p))) a9 s 0 0 nA) (F0 m9 18 ls []) := by
      intro d9
      induction d9 with
      | zero => intro k H locs ls h9; exact absurd h9 (Nat.not_lt_zero _)
      | succ d9 ih18 =>
        intro k H locs ls hd18 hk hP hS hl
        refine lv_iload hx hb dX1_isGood_18 (lv_at hl 0 rfl) ?_
        refine lv_aload_n hx hb dX1_isGood_20 rfl (lv_at hl 2 rfl) ?_
        refine va_get (D := D) (ci := 1) (v := .int (nI n)) hx hb hts hin hown hK hP 0 rfl rfl 4 (by decide) f46 (fun _ h9 => h9) rfl dX1_isGood_21 ?_
        refine lv_icmp_ge (x := (nI k)) (y := (nI n)) (tgt := 54) hx hb dX1_isGood_24 (by decide) (fun c_24 => ?_) (fun c_24 => ?_)
        · have hk24 : k = n := Nat.le_antisymm hk (nI_ge_of c_24 (by have := hw.n; omega) (by have := hw.n; omega))
          refine lv_iload_n hx hb dX1_isGood_54 rfl (lv_at hl 1 rfl) ?_
          exact W.zret hx hb hr (bi_nar _) (fun t ht hW => ⟨⟨_, (), rfl, (by show (bi (gdK F g p k)) = bi (mGood F n g p); first | (rw [c_28, show mGood F n g p = false from gdK_mono c_28 hk]; done) | (rw [hk24]; rfl)), trivial⟩, hS.F ht⟩) hS.2.2 dX1_isGood_55
        · have hk24 : k < n := nI_lt_of c_24 (by have := hw.n; omega)
          refine lv_iload_n hx hb dX1_isGood_27 rfl (lv_at hl 1 rfl) ?_
          refine lv_if_eq (x := (bi (gdK F g p k))) (tgt := 54) hx hb dX1_isGood_28 (by decide) (fun c_28 => ?_) (fun c_28 => ?_)
          · have c_28 := bi_e0.mp c_28
            refine lv_iload_n hx hb dX1_isGood_54 rfl (lv_at hl 1 rfl) ?_
            exact W.zret hx hb hr (bi_nar _) (fun t ht hW => ⟨⟨_, (), rfl, (by show (bi (gdK F g p k)) = bi (mGood F n g p); first | (rw [c_28, show mGood F n g p = false from gdK_mono c_28 hk]; done) | (rw [hk24]; rfl)), trivial⟩, hS.F ht⟩) hS.2.2 dX1_isGood_55
          · have c_28 := bi_n0.mp c_28
            refine lv_aload_n hx hb dX1_isGood_31 rfl (lv_at hl 2 rfl) ?_
            refine lv_iload_n hx hb dX1_isGood_32 rfl (lv_at hl 3 rfl) ?_
            refine lv_iload hx hb dX1_isGood_33 (lv_at hl 0 rfl) ?_
            refine lv_iload_n hx hb dX1_isGood_35 rfl (lv_at hl 4 rfl) ?_
            refine ro_V (As := [.int (nI g), .int (nI k), .int p]) (rest := []) ⟨hx, hb, hml, hown, hts⟩ (c_X1_areFoes l D q F n R th cI cZ g k p hw hg hk24) (cwV 3 hts gX1_isGood_X1_areFoes rfl rfl rfl (by decide +kernel) ⟨Nat.le_of_ble_eq_true rfl, Nat.le_of_ble_eq_true rfl⟩) hK hP hP (va_recv hK hP (ci := 1) (q0 := 0) rfl rfl) hS rfl hl.1 rfl (Nat.le_of_ble_eq_true rfl) dX1_isGood_36 ⟨Nat.le_of_ble_eq_true rfl, Nat.le_of_ble_eq_true rfl⟩ (fun r H locs hr9 hP hS => ?_)
            subst hr9
            refine lv_if_ne (x := (bi (mFoe F g k p))) (tgt := 46) hx hb dX1_isGood_39 (by decide) (fun c_39 => ?_) (fun c_39 => ?_)
            · have c_39 := bi_n0.mp c_39
              refine lv_iconst (v := 0) hx hb dX1_isGood_46 (by decide) ?_
              refine lv_istore_n (lv' := [(3, .int 0), (4, .int (nI k)), (0, .ref (q 9)), (1, .int (nI g)), (2, .int p)]) hx hb dX1_isGood_47 rfl hl (by decide) rfl (fun ls hl => ?_)
              refine lv_iinc (v := (nI (k + 1))) (lv' := [(4, .int (nI (k + 1))), (3, .int 0), (0, .ref (q 9)), (1, .int (nI g)), (2, .int p)]) hx hb dX1_isGood_48 hl (k := 1) rfl (nI_1 k) (by decide) rfl (fun ls hl => ?_)
              refine lv_goto (tgt := 18) hx hb dX1_isGood_51 (by decide) ?_
              have e3 : 0 = bi (gdK F g p (k + 1)) := by rw [gdK_f c_39]; rfl
              rw [e3] at hl
              exact ih18 (k + 1) _ _ _ (by omega) (by omega) hP hS (lv_sub hl [0, 1, 2, 3, 4] rfl)
            · have c_39 := bi_e0.mp c_39
              refine lv_iconst (v := 1) hx hb dX1_isGood_42 (by decide) ?_
              refine lv_goto (tgt := 47) hx hb dX1_isGood_43 (by decide) ?_
              refine lv_istore_n (lv' := [(3, .int 1), (4, .int (nI k)), (0, .ref (q 9)), (1, .int (nI g)), (2, .int p)]) hx hb dX1_isGood_47 rfl hl (by decide) rfl (fun ls hl => ?_)
              refine lv_iinc (v := (nI (k + 1))) (lv' := [(4, .int (nI (k + 1))), (3, .int 1), (0, .ref (q 9)), (1, .int (nI g)), (2, .int p)]) hx hb dX1_isGood_48 hl (k := 1) rfl (nI_1 k) (by decide) rfl (fun ls hl => ?_)
              refine lv_goto (tgt := 18) hx hb dX1_isGood_51 (by decide) ?_
              have e3 : 1 = bi (gdK F g p (k + 1)) := by rw [gdK_t c_28 c_39]; rfl
              rw [e3] at hl
              exact ih18 (k + 1) _ _ _ (by omega) (by omega) hP hS (lv_sub hl [0, 1, 2, 3, 4] rfl)
    have e3 : 0 = (bi (gdK F g p 0)) := by simp [gdK, allB, bi, c_6]
    have hl : lv_has ls 5 [(4, .int 0), (3, .int (bi (gdK F g p 0))), (0, .ref (q 9)), (1, .int (nI g)), (2, .int p)] := by rw [← e3]; exact hl
    exact L18 _ 0 _ _ _ (Nat.lt_succ_self _) (Nat.zero_le _) hP hS (lv_sub hl [0, 1, 2, 3, 4] rfl)
  · have c_6 := bi_e0.mp c_6
    refine lv_iconst (v := 1) hx hb dX1_isGood_9 (by decide) ?_
    refine lv_goto (tgt := 14) hx hb dX1_isGood_10 (by decide) ?_
    refine lv_istore_n (lv' := [(3, .int 1), (0, .ref (q 9)), (1, .int (nI g)), (2, .int p)]) hx hb dX1_isGood_14 rfl hl (by decide) rfl (fun ls hl => ?_)
    refine lv_iconst (v := 0) hx hb dX1_isGood_15 (by decide) ?_
    refine lv_istore (lv' := [(4, .int 0), (3, .int 1), (0, .ref (q 9)), (1, .int (nI g)), (2, .int p)]) hx hb dX1_isGood_16 hl (by decide) rfl (fun ls hl => ?_)
    have L18 : ∀ (d9 : Nat) (k : Nat) (H : Heap) (locs : List Loc) (ls : Array Slot), n - k < d9 → (k ≤ n) → va_P D vwCl (wM q F (nI n) R th cI cZ) H → va_S nA s.heap H locs → lv_has ls 5 [(4, .int (nI k)), (3, .int (bi (gdK F g p k))), (0, .ref (q 9)), (1, .int (nI g)), (2, .int p)] → W p9 l e9 ({ frames := 5, cells := 0, slots := 0, locals := 113 }) s m9 a9 below meth c9 H locs 0 0 (MQ below (RO (fun r => r = bi (mGood F n g p))) a9 s 0 0 nA) (F0 m9 18 ls []) := by
      intro d9
      induction d9 with
      | zero => intro k H locs ls h9; exact absurd h9 (Nat.not_lt_zero _)
      | succ d9 ih18 =>
        intro k H locs ls hd18 hk hP hS hl
        refine lv_iload hx hb dX1_isGood_18 (lv_at hl 0 rfl) ?_
        refine lv_aload_n hx hb dX1_isGood_20 rfl (lv_at hl 2 rfl) ?_
        refine va_get (D := D) (ci := 1) (v := .int (nI n)) hx hb hts hin hown hK hP 0 rfl rfl 4 (by decide) f46 (fun _ h9 => h9) rfl dX1_isGood_21 ?_
        refine lv_icmp_ge (x := (nI k)) (y := (nI n)) (tgt := 54) hx hb dX1_isGood_24 (by decide) (fun c_24 => ?_) (fun c_24 => ?_)
        · have hk24 : k = n := Nat.le_antisymm hk (nI_ge_of c_24 (by have := hw.n; omega) (by have := hw.n; omega))
          refine lv_iload_n hx hb dX1_isGood_54 rfl (lv_at hl 1 rfl) ?_
          exact W.zret hx hb hr (bi_nar _) (fun t ht hW => ⟨⟨_, (), rfl, (by show (bi (gdK F g p k)) = bi (mGood F n g p); first | (rw [c_28, show mGood F n g p = false from gdK_mono c_28 hk]; done) | (rw [hk24]; rfl)), trivial⟩, hS.F ht⟩) hS.2.2 dX1_isGood_55
        · have hk24 : k < n := nI_lt_of c_24 (by have := hw.n; omega)
          refine lv_iload_n hx hb dX1_isGood_27 rfl (lv_at hl 1 rfl) ?_
          refine lv_if_eq (x := (bi (gdK F g p k))) (tgt := 54) hx hb dX1_isGood_28 (by decide) (fun c_28 => ?_) (fun c_28 => ?_)
          · have c_28 := bi_e0.mp c_28
            refine lv_iload_n hx hb dX1_isGood_54 rfl (lv_at hl 1 rfl) ?_
            exact W.zret hx hb hr (bi_nar _) (fun t ht hW => ⟨⟨_, (), rfl, (by show (bi (gdK F g p k)) = bi (mGood F n g p); first | (rw [c_28, show mGood F n g p = false from gdK_mono c_28 hk]; done) | (rw [hk24]; rfl)), trivial⟩, hS.F ht⟩) hS.2.2 dX1_isGood_55
          · have c_28 := bi_n0.mp c_28
            refine lv_aload_n hx hb dX1_isGood_31 rfl (lv_at hl 2 rfl) ?_
            refine lv_iload_n hx hb dX1_isGood_32 rfl (lv_at hl 3 rfl) ?_
            refine lv_iload hx hb dX1_isGood_33 (lv_at hl 0 rfl) ?_
            refine lv_iload_n hx hb dX1_isGood_35 rfl (lv_at hl 4 rfl) ?_
            refine ro_V (As := [.int (nI g), .int (nI k), .int p]) (rest := []) ⟨hx, hb, hml, hown, hts⟩ (c_X1_areFoes l D q F n R th cI cZ g k p hw hg hk24) (cwV 3 hts gX1_isGood_X1_areFoes rfl rfl rfl (by decide +kernel) ⟨Nat.le_of_ble_eq_true rfl, Nat.le_of_ble_eq_true rfl⟩) hK hP hP (va_recv hK hP (ci := 1) (q0 := 0) rfl rfl) hS rfl hl.1 rfl (Nat.le_of_ble_eq_true rfl) dX1_isGood_36 ⟨Nat.le_of_ble_eq_true rfl, Nat.le_of_ble_eq_true rfl⟩ (fun r H locs hr9 hP hS => ?_)
            subst hr9
            refine lv_if_ne (x := (bi (mFoe F g k p))) (tgt := 46) hx hb dX1_isGood_39 (by decide) (fun c_39 => ?_) (fun c_39 => ?_)
            · have c_39 := bi_n0.mp c_39
              refine lv_iconst (v := 0) hx hb dX1_isGood_46 (by decide) ?_
              refine lv_istore_n (lv' := [(3, .int 0), (4, .int (nI k)), (0, .ref (q 9)), (1, .int (nI g)), (2, .int p)]) hx hb dX1_isGood_47 rfl hl (by decide) rfl (fun ls hl => ?_)
              refine lv_iinc (v := (nI (k + 1))) (lv' := [(4, .int (nI (k + 1))), (3, .int 0), (0, .ref (q 9)), (1, .int (nI g)), (2, .int p)]) hx hb dX1_isGood_48 hl (k := 1) rfl (nI_1 k) (by decide) rfl (fun ls hl => ?_)
              refine lv_goto (tgt := 18) hx hb dX1_isGood_51 (by decide) ?_
              have e3 : 0 = bi (gdK F g p (k + 1)) := by rw [gdK_f c_39]; rfl
              rw [e3] at hl
              exact ih18 (k + 1) _ _ _ (by omega) (by omega) hP hS (lv_sub hl [0, 1, 2, 3, 4] rfl)
            · have c_39 := bi_e0.mp c_39
              refine lv_iconst (v := 1) hx hb dX1_isGood_42 (by decide) ?_
              refine lv_goto (tgt := 47) hx hb dX1_isGood_43 (by decide) ?_
              refine lv_istore_n (lv' := [(3, .int 1), (4, .int (nI k)), (0, .ref (q 9)), (1, .int (nI g)), (2, .int p)]) hx hb dX1_isGood_47 rfl hl (by decide) rfl (fun ls hl => ?_)
              refine lv_iinc (v := (nI (k + 1))) (lv' := [(4, .int (nI (k + 1))), (3, .int 1), (0, .ref (q 9)), (1, .int (nI g)), (2, .int p)]) hx hb dX1_isGood_48 hl (k := 1) rfl (nI_1 k) (by decide) rfl (fun ls hl => ?_)
              refine lv_goto (tgt := 18) hx hb dX1_isGood_51 (by decide) ?_
              have e3 : 1 = bi (gdK F g p (k + 1)) := by rw [gdK_t c_28 c_39]; rfl
              rw [e3] at hl
              exact ih18 (k + 1) _ _ _ (by omega) (by omega) hP hS (lv_sub hl [0, 1, 2, 3, 4] rfl)
    have e3 : 1 = (bi (gdK F g p 0)) := by simp [gdK, allB, bi, c_6]
    have hl : lv_has ls 5 [(4, .int 0), (3, .int (bi (gdK F g p 0))), (0, .ref (q 9)), (1, .int (nI g)), (2, .int p)] := by rw [← e3]; exact hl
    exact L18 _ 0 _ _ _ (Nat.lt_succ_self _) (Nat.zero_le _) hP hS (lv_sub hl [0, 1, 2, 3, 4] rfl)
set_option maxHeartbeats 4000000 in
set_option maxRecDepth 100000 in
theorem c_X1_isCleanWithout (l : Launch) (D : va_G) (q : Nat → Nat) (F : Nat → Nat → Int32) (n : Nat) (R : Nat → Int32) (th : Int32) (cI cZ : ClassId) (gone : Nat) (wr : Nat) (rows : Nat → Nat) (hR : ∀ j, j < n → R j = nI (rows j) ∧ rows j < 65536) (hn : n ≤ 16) (h1 : gone < 65536) (h2 : wr < 65536) : Met l yX1_isCleanWithout wsX1_isCleanWithout ({ frames := 0, cells := 0, slots := 0, locals := 0 }) (va_Pc [.ref (q 9), .int (nI gone), .int (nI wr)] (rW D (wM q F (nI n) R th cI cZ) (tIZ cI cZ))) (RO (fun r => r = bi (cwK rows gone wr n))) 0 0 nA := by
  refine ro_of (own := RX1) (cc := cX1_isCleanWithout) (maxL := 5) (ret := (some .boolean)) (by decide) rfl rfl (Nat.le_of_ble_eq_true rfl) ?_
  intro p9 e9 s m9 a9 below meth c9 ls hx hb hr hml hlocks hown hts hP hK hl
  have hin : ∀ w ∈ wsX10, w ∈ wsX1_isCleanWithout := by decide +kernel
  have f35 := hts (.fieldLink RX1 35 "DangerousGoodsModel" "foes" "[I") (by decide +kernel)
  have f46 := hts (.fieldLink RX1 46 "DangerousGoodsModel" "goods" "I") (by decide +kernel)
  have hS : va_S nA s.heap s.heap [] := va_S.rf
  have hl : lv_has ls 5 [(0, .ref (q 9)), (1, .int (nI gone)), (2, .int (nI wr))] := hl
  refine lv_iload_n hx hb dX1_isCleanWithout_0 rfl (lv_at hl 2 rfl) ?_
  refine lv_iload_n hx hb dX1_isCleanWithout_1 rfl (lv_at hl 1 rfl) ?_
  refine lv_iconst (v := (-1)) hx hb dX1_isCleanWithout_2 (by decide) ?_
  refine lv_ixor hx hb (x := (nI gone)) (y := (-1)) dX1_isCleanWithout_3 ?_
  refine lv_iand hx hb (x := (nI wr)) (y := ((nI gone) ^^^ (-1))) dX1_isCleanWithout_4 ?_
  refine lv_if_ne (x := ((nI wr) &&& ((nI gone) ^^^ (-1)))) (tgt := 12) hx hb dX1_isCleanWithout_5 (by decide) (fun c_5 => ?_) (fun c_5 => ?_)
  · have c_5 : ¬ wr &&& (65535 ^^^ gone) = 0 := fun j => c_5 ((xor_m1 h1 _ h2).mpr j)
    refine lv_iconst (v := 0) hx hb dX1_isCleanWithout_12 (by decide) ?_
    refine lv_istore_n (lv' := [(3, .int 0), (0, .ref (q 9)), (1, .int (nI gone)), (2, .int (nI wr))]) hx hb dX1_isCleanWithout_13 rfl hl (by decide) rfl (fun ls hl => ?_)
    refine lv_iconst (v := 0) hx hb dX1_isCleanWithout_14 (by decide) ?_
    refine lv_istore (lv' := [(4, .int 0), (3, .int 0), (0, .ref (q 9)), (1, .int (nI gone)), (2, .int (nI wr))]) hx hb dX1_isCleanWithout_15 hl (by decide) rfl (fun ls hl => ?_)
    have L17 : ∀ (d9 : Nat) (k : Nat) (H : Heap) (locs : List Loc) (ls : Array Slot), n - k < d9 → (k ≤ n) → va_P D vwCl (wM q F (nI n) R th cI cZ) H → va_S nA s.heap H locs → lv_has ls 5 [(4, .int (nI k)), (3, .int (bi (cwK rows gone wr k))), (0, .ref (q 9)), (1, .int (nI gone)), (2, .int (nI wr))] → W p9 l e9 ({ frames := 0, cells := 0, slots := 0, locals := 0 }) s m9 a9 below meth c9 H locs 0 0 (MQ below (RO (fun r => r = bi (cwK rows gone wr n))) a9 s 0 0 nA) (F0 m9 17 ls []) := by
      intro d9
      induction d9 with
      | zero => intro k H locs ls h9; exact absurd h9 (Nat.not_lt_zero _)
      | succ d9 ih17 =>
        intro k H locs ls hd17 hk hP hS hl
        refine lv_iload hx hb dX1_isCleanWithout_17 (lv_at hl 0 rfl) ?_
        refine lv_aload_n hx hb dX1_isCleanWithout_19 rfl (lv_at hl 2 rfl) ?_
        refine va_get (D := D) (ci := 1) (v := .int (nI n)) hx hb hts hin hown hK hP 0 rfl rfl 4 (by decide) f46 (fun _ h9 => h9) rfl dX1_isCleanWithout_20 ?_
        refine lv_icmp_ge (x := (nI k)) (y := (nI n)) (tgt := 66) hx hb dX1_isCleanWithout_23 (by decide) (fun c_23 => ?_) (fun c_23 => ?_)
        · have hk23 : k = n := Nat.le_antisymm hk (nI_ge_of c_23 (by omega) (by omega))
          refine lv_iload_n hx hb dX1_isCleanWithout_66 rfl (lv_at hl 1 rfl) ?_
          exact W.zret hx hb hr (bi_nar _) (fun t ht hW => ⟨⟨_, (), rfl, (by show (bi (cwK rows gone wr k)) = bi (cwK rows gone wr n); first | (rw [c_27, cwK_mono c_27 hk]; done) | (rw [hk23]; done)), trivial⟩, hS.F ht⟩) hS.2.2 dX1_isCleanWithout_67
        · have hk23 : k < n := nI_lt_of c_23 (by omega)
          refine lv_iload_n hx hb dX1_isCleanWithout_26 rfl (lv_at hl 1 rfl) ?_
          refine lv_if_eq (x := (bi (cwK rows gone wr k))) (tgt := 66) hx hb dX1_isCleanWithout_27 (by decide) (fun c_27 => ?_) (fun c_27 => ?_)
          · have c_27 := bi_e0.mp c_27
            refine lv_iload_n hx hb dX1_isCleanWithout_66 rfl (lv_at hl 1 rfl) ?_
            exact W.zret hx hb hr (bi_nar _) (fun t ht hW => ⟨⟨_, (), rfl, (by show (bi (cwK rows gone wr k)) = bi (cwK rows gone wr n); first | (rw [c_27, cwK_mono c_27 hk]; done) | (rw [hk23]; done)), trivial⟩, hS.F ht⟩) hS.2.2 dX1_isCleanWithout_67
          · have c_27 := bi_n0.mp c_27
            refine lv_iload_n hx hb dX1_isCleanWithout_30 rfl (lv_at hl 3 rfl) ?_
            refine lv_iload hx hb dX1_isCleanWithout_31 (lv_at hl 0 rfl) ?_
            refine lv_ishr hx hb (x := (nI gone)) (y := (nI k)) dX1_isCleanWithout_33 ?_
            refine lv_iconst (v := 1) hx hb dX1_isCleanWithout_34 (by decide) ?_
            refine lv_iand hx hb (x := ((nI gone) >>> ((nI k) &&& 31))) (y := 1) dX1_isCleanWithout_35 ?_
            refine lv_iconst (v := 1) hx hb dX1_isCleanWithout_36 (by decide) ?_
            refine lv_icmp_eq (x := (((nI gone) >>> ((nI k) &&& 31)) &&& 1)) (y := 1) (tgt := 54) hx hb dX1_isCleanWithout_37 (by decide) (fun c_37 => ?_) (fun c_37 => ?_)
            · have c_37 : gone.testBit k = true := (bit_i h1 (by omega)).mp c_37
              refine lv_iconst (v := 1) hx hb dX1_isCleanWithout_54 (by decide) ?_
              refine lv_goto (tgt := 59) hx hb dX1_isCleanWithout_55 (by decide) ?_
              refine lv_istore_n (lv' := [(3, .int 1), (4, .int (nI k)), (0, .ref (q 9)), (1, .int (nI gone)), (2, .int (nI wr))]) hx hb dX1_isCleanWithout_59 rfl hl (by decide) rfl (fun ls hl => ?_)
              refine lv_iinc (v := (nI (k + 1))) (lv' := [(4, .int (nI (k + 1))), (3, .int 1), (0, .ref (q 9)), (1, .int (nI gone)), (2, .int (nI wr))]) hx hb dX1_isCleanWithout_60 hl (k := 1) rfl (nI_1 k) (by decide) rfl (fun ls hl => ?_)
              refine lv_goto (tgt := 17) hx hb dX1_isCleanWithout_63 (by decide) ?_
              have e3 : 1 = bi (cwK rows gone wr (k + 1)) := by rw [cwK_t c_27 (by simp [cwB, c_37])]; rfl
              rw [e3] at hl
              exact ih17 (k + 1) _ _ _ (by omega) (by omega) hP hS (lv_sub hl [0, 1, 2, 3, 4] rfl)
            · have c_37 : gone.testBit k = false := by
                cases e : gone.testBit k with
                | false => rfl
                | true => exact absurd ((bit_i h1 (by omega)).mpr e) c_37
              refine lv_aload_n hx hb dX1_isCleanWithout_40 rfl (lv_at hl 2 rfl) ?_
              refine va_get (D := D) (ci := 1) (v := .ref (q 8)) hx hb hts hin hown hK hP 0 rfl rfl 9 (by decide) f35 (fun _ h9 => h9) rfl dX1_isCleanWithout_41 ?_
              refine lv_iload hx hb dX1_isCleanWithout_44 (lv_at hl 0 rfl) ?_
              refine xiald hx hb hK hP 9 0 rfl rfl (g := k) ((by omega : k < 16)) (by decide) dX1_isCleanWithout_46 ?_
              refine lv_iload_n hx hb dX1_isCleanWithout_47 rfl (lv_at hl 3 rfl) ?_
              refine lv_iconst (v := (-1)) hx hb dX1_isCleanWithout_48 (by decide) ?_
              refine lv_ixor hx hb (x := (nI gone)) (y := (-1)) dX1_isCleanWithout_49 ?_
              refine lv_iand hx hb (x := (R k)) (y := ((nI gone) ^^^ (-1))) dX1_isCleanWithout_50 ?_
              refine lv_if_ne (x := ((R k) &&& ((nI gone) ^^^ (-1)))) (tgt := 58) hx hb dX1_isCleanWithout_51 (by decide) (fun c_51 => ?_) (fun c_51 => ?_)
              · have c_51 : ¬ rows k &&& (65535 ^^^ gone) = 0 := fun j => c_51 (by rw [(hR k hk23).1]; exact (xor_m1 h1 _ (hR k hk23).2).mpr j)
                refine lv_iconst (v := 0) hx hb dX1_isCleanWithout_58 (by decide) ?_
                refine lv_istore_n (lv' := [(3, .int 0), (4, .int (nI k)), (0, .ref (q 9)), (1, .int (nI gone)), (2, .int (nI wr))]) hx hb dX1_isCleanWithout_59 rfl hl (by decide) rfl (fun ls hl => ?_)
                refine lv_iinc (v := (nI (k + 1))) (lv' := [(4, .int (nI (k + 1))), (3, .int 0), (0, .ref (q 9)), (1, .int (nI gone)), (2, .int (nI wr))]) hx hb dX1_isCleanWithout_60 hl (k := 1) rfl (nI_1 k) (by decide) rfl (fun ls hl => ?_)
                refine lv_goto (tgt := 17) hx hb dX1_isCleanWithout_63 (by decide) ?_
                have e3 : 0 = bi (cwK rows gone wr (k + 1)) := by rw [cwK_f (by simp [cwB, c_37, c_51])]; rfl
                rw [e3] at hl
                exact ih17 (k + 1) _ _ _ (by omega) (by omega) hP hS (lv_sub hl [0, 1, 2, 3, 4] rfl)
              · have c_51 : rows k &&& (65535 ^^^ gone) = 0 := (xor_m1 h1 _ (hR k hk23).2).mp (by rw [← (hR k hk23).1]; exact c_51)
                refine lv_iconst (v := 1) hx hb dX1_isCleanWithout_54 (by decide) ?_
                refine lv_goto (tgt := 59) hx hb dX1_isCleanWithout_55 (by decide) ?_
                refine lv_istore_n (lv' := [(3, .int 1), (4, .int (nI k)), (0, .ref (q 9)), (1, .int (nI gone)), (2, .int (nI wr))]) hx hb dX1_isCleanWithout_59 rfl hl (by decide) rfl (fun ls hl => ?_)
                refine lv_iinc (v := (nI (k + 1))) (lv' := [(4, .int (nI (k + 1))), (3, .int 1), (0, .ref (q 9)), (1, .int (nI gone)), (2, .int (nI wr))]) hx hb dX1_isCleanWithout_60 hl (k := 1) rfl (nI_1 k) (by decide) rfl (fun ls hl => ?_)
                refine lv_goto (tgt := 17) hx hb dX1_isCleanWithout_63 (by decide) ?_
                have e3 : 1 = bi (cwK rows gone wr (k + 1)) := by rw [cwK_t c_27 (by simp [cwB, c_37, c_51])]; rfl
                rw [e3] at hl
                exact ih17 (k + 1) _ _ _ (by omega) (by omega) hP hS (lv_sub hl [0, 1, 2, 3, 4] rfl)
    have e3 : 0 = (bi (cwK rows gone wr 0)) := by simp [cwK, allB, bi, c_5]
    have hl : lv_has ls 5 [(4, .int 0), (3, .int (bi (cwK rows gone wr 0))), (0, .ref (q 9)), (1, .int (nI gone)), (2, .int (nI wr))] := by rw [← e3]; exact hl
    exact L17 _ 0 _ _ _ (Nat.lt_succ_self _) (Nat.zero_le _) hP hS (lv_sub hl [0, 1, 2, 3, 4] rfl)
  · have c_5 : wr &&& (65535 ^^^ gone) = 0 := (xor_m1 h1 _ h2).mp c_5
    refine lv_iconst (v := 1) hx hb dX1_isCleanWithout_8 (by decide) ?_
    refine lv_goto (tgt := 13) hx hb dX1_isCleanWithout_9 (by decide) ?_
    refine lv_istore_n (lv' := [(3, .int 1), (0, .ref (q 9)), (1, .int (nI gone)), (2, .int (nI wr))]) hx hb dX1_isCleanWithout_13 rfl hl (by decide) rfl (fun ls hl => ?_)
    refine lv_iconst (v := 0) hx hb dX1_isCleanWithout_14 (by decide) ?_
    refine lv_istore (lv' := [(4, .int 0), (3, .int 1), (0, .ref (q 9)), (1, .int (nI gone)), (2, .int (nI wr))]) hx hb dX1_isCleanWithout_15 hl (by decide) rfl (fun ls hl => ?_)
    have L17 : ∀ (d9 : Nat) (k : Nat) (H : Heap) (locs : List Loc) (ls : Array Slot), n - k < d9 → (k ≤ n) → va_P D vwCl (wM q F (nI n) R th cI cZ) H → va_S nA s.heap H locs → lv_has ls 5 [(4, .int (nI k)), (3, .int (bi (cwK rows gone wr k))), (0, .ref (q 9)), (1, .int (nI gone)), (2, .int (nI wr))] → W p9 l e9 ({ frames := 0, cells := 0, slots := 0, locals := 0 }) s m9 a9 below meth c9 H locs 0 0 (MQ below (RO (fun r => r = bi (cwK rows gone wr n))) a9 s 0 0 nA) (F0 m9 17 ls []) := by
      intro d9
      induction d9 with
      | zero => intro k H locs ls h9; exact absurd h9 (Nat.not_lt_zero _)
      | succ d9 ih17 =>
        intro k H locs ls hd17 hk hP hS hl
        refine lv_iload hx hb dX1_isCleanWithout_17 (lv_at hl 0 rfl) ?_
        refine lv_aload_n hx hb dX1_isCleanWithout_19 rfl (lv_at hl 2 rfl) ?_
        refine va_get (D := D) (ci := 1) (v := .int (nI n)) hx hb hts hin hown hK hP 0 rfl rfl 4 (by decide) f46 (fun _ h9 => h9) rfl dX1_isCleanWithout_20 ?_
        refine lv_icmp_ge (x := (nI k)) (y := (nI n)) (tgt := 66) hx hb dX1_isCleanWithout_23 (by decide) (fun c_23 => ?_) (fun c_23 => ?_)
        · have hk23 : k = n := Nat.le_antisymm hk (nI_ge_of c_23 (by omega) (by omega))
          refine lv_iload_n hx hb dX1_isCleanWithout_66 rfl (lv_at hl 1 rfl) ?_
          exact W.zret hx hb hr (bi_nar _) (fun t ht hW => ⟨⟨_, (), rfl, (by show (bi (cwK rows gone wr k)) = bi (cwK rows gone wr n); first | (rw [c_27, cwK_mono c_27 hk]; done) | (rw [hk23]; done)), trivial⟩, hS.F ht⟩) hS.2.2 dX1_isCleanWithout_67
        · have hk23 : k < n := nI_lt_of c_23 (by omega)
          refine lv_iload_n hx hb dX1_isCleanWithout_26 rfl (lv_at hl 1 rfl) ?_
          refine lv_if_eq (x := (bi (cwK rows gone wr k))) (tgt := 66) hx hb dX1_isCleanWithout_27 (by decide) (fun c_27 => ?_) (fun c_27 => ?_)
          · have c_27 := bi_e0.mp c_27
            refine lv_iload_n hx hb dX1_isCleanWithout_66 rfl (lv_at hl 1 rfl) ?_
            exact W.zret hx hb hr (bi_nar _) (fun t ht hW => ⟨⟨_, (), rfl, (by show (bi (cwK rows gone wr k)) = bi (cwK rows gone wr n); first | (rw [c_27, cwK_mono c_27 hk]; done) | (rw [hk23]; done)), trivial⟩, hS.F ht⟩) hS.2.2 dX1_isCleanWithout_67
          · have c_27 := bi_n0.mp c_27
            refine lv_iload_n hx hb dX1_isCleanWithout_30 rfl (lv_at hl 3 rfl) ?_
            refine lv_iload hx hb dX1_isCleanWithout_31 (lv_at hl 0 rfl) ?_
            refine lv_ishr hx hb (x := (nI gone)) (y := (nI k)) dX1_isCleanWithout_33 ?_
            refine lv_iconst (v := 1) hx hb dX1_isCleanWithout_34 (by decide) ?_
            refine lv_iand hx hb (x := ((nI gone) >>> ((nI k) &&& 31))) (y := 1) dX1_isCleanWithout_35 ?_
            refine lv_iconst (v := 1) hx hb dX1_isCleanWithout_36 (by decide) ?_
            refine lv_icmp_eq (x := (((nI gone) >>> ((nI k) &&& 31)) &&& 1)) (y := 1) (tgt := 54) hx hb dX1_isCleanWithout_37 (by decide) (fun c_37 => ?_) (fun c_37 => ?_)
            · have c_37 : gone.testBit k = true := (bit_i h1 (by omega)).mp c_37
              refine lv_iconst (v := 1) hx hb dX1_isCleanWithout_54 (by decide) ?_
              refine lv_goto (tgt := 59) hx hb dX1_isCleanWithout_55 (by decide) ?_
              refine lv_istore_n (lv' := [(3, .int 1), (4, .int (nI k)), (0, .ref (q 9)), (1, .int (nI gone)), (2, .int (nI wr))]) hx hb dX1_isCleanWithout_59 rfl hl (by decide) rfl (fun ls hl => ?_)
              refine lv_iinc (v := (nI (k + 1))) (lv' := [(4, .int (nI (k + 1))), (3, .int 1), (0, .ref (q 9)), (1, .int (nI gone)), (2, .int (nI wr))]) hx hb dX1_isCleanWithout_60 hl (k := 1) rfl (nI_1 k) (by decide) rfl (fun ls hl => ?_)
              refine lv_goto (tgt := 17) hx hb dX1_isCleanWithout_63 (by decide) ?_
              have e3 : 1 = bi (cwK rows gone wr (k + 1)) := by rw [cwK_t c_27 (by simp [cwB, c_37])]; rfl
              rw [e3] at hl
              exact ih17 (k + 1) _ _ _ (by omega) (by omega) hP hS (lv_sub hl [0, 1, 2, 3, 4] rfl)
            · have c_37 : gone.testBit k = false := by
                cases e : gone.testBit k with
                | false => rfl
                | true => exact absurd ((bit_i h1 (by omega)).mpr e) c_37
              refine lv_aload_n hx hb dX1_isCleanWithout_40 rfl (lv_at hl 2 rfl) ?_
              refine va_get (D := D) (ci := 1) (v := .ref (q 8)) hx hb hts hin hown hK hP 0 rfl rfl 9 (by decide) f35 (fun _ h9 => h9) rfl dX1_isCleanWithout_41 ?_
              refine lv_iload hx hb dX1_isCleanWithout_44 (lv_at hl 0 rfl) ?_
              refine xiald hx hb hK hP 9 0 rfl rfl (g := k) ((by omega : k < 16)) (by decide) dX1_isCleanWithout_46 ?_
              refine lv_iload_n hx hb dX1_isCleanWithout_47 rfl (lv_at hl 3 rfl) ?_
              refine lv_iconst (v := (-1)) hx hb dX1_isCleanWithout_48 (by decide) ?_
              refine lv_ixor hx hb (x := (nI gone)) (y := (-1)) dX1_isCleanWithout_49 ?_
              refine lv_iand hx hb (x := (R k)) (y := ((nI gone) ^^^ (-1))) dX1_isCleanWithout_50 ?_
              refine lv_if_ne (x := ((R k) &&& ((nI gone) ^^^ (-1)))) (tgt := 58) hx hb dX1_isCleanWithout_51 (by decide) (fun c_51 => ?_) (fun c_51 => ?_)
              · have c_51 : ¬ rows k &&& (65535 ^^^ gone) = 0 := fun j => c_51 (by rw [(hR k hk23).1]; exact (xor_m1 h1 _ (hR k hk23).2).mpr j)
                refine lv_iconst (v := 0) hx hb dX1_isCleanWithout_58 (by decide) ?_
                refine lv_istore_n (lv' := [(3, .int 0), (4, .int (nI k)), (0, .ref (q 9)), (1, .int (nI gone)), (2, .int (nI wr))]) hx hb dX1_isCleanWithout_59 rfl hl (by decide) rfl (fun ls hl => ?_)
                refine lv_iinc (v := (nI (k + 1))) (lv' := [(4, .int (nI (k + 1))), (3, .int 0), (0, .ref (q 9)), (1, .int (nI gone)), (2, .int (nI wr))]) hx hb dX1_isCleanWithout_60 hl (k := 1) rfl (nI_1 k) (by decide) rfl (fun ls hl => ?_)
                refine lv_goto (tgt := 17) hx hb dX1_isCleanWithout_63 (by decide) ?_
                have e3 : 0 = bi (cwK rows gone wr (k + 1)) := by rw [cwK_f (by simp [cwB, c_37, c_51])]; rfl
                rw [e3] at hl
                exact ih17 (k + 1) _ _ _ (by omega) (by omega) hP hS (lv_sub hl [0, 1, 2, 3, 4] rfl)
              · have c_51 : rows k &&& (65535 ^^^ gone) = 0 := (xor_m1 h1 _ (hR k hk23).2).mp (by rw [← (hR k hk23).1]; exact c_51)
                refine lv_iconst (v := 1) hx hb dX1_isCleanWithout_54 (by decide) ?_
                refine lv_goto (tgt := 59) hx hb dX1_isCleanWithout_55 (by decide) ?_
                refine lv_istore_n (lv' := [(3, .int 1), (4, .int (nI k)), (0, .ref (q 9)), (1, .int (nI gone)), (2, .int (nI wr))]) hx hb dX1_isCleanWithout_59 rfl hl (by decide) rfl (fun ls hl => ?_)
                refine lv_iinc (v := (nI (k + 1))) (lv' := [(4, .int (nI (k + 1))), (3, .int 1), (0, .ref (q 9)), (1, .int (nI gone)), (2, .int (nI wr))]) hx hb dX1_isCleanWithout_60 hl (k := 1) rfl (nI_1 k) (by decide) rfl (fun ls hl => ?_)
                refine lv_goto (tgt := 17) hx hb dX1_isCleanWithout_63 (by decide) ?_
                have e3 : 1 = bi (cwK rows gone wr (k + 1)) := by rw [cwK_t c_27 (by simp [cwB, c_37, c_51])]; rfl
                rw [e3] at hl
                exact ih17 (k + 1) _ _ _ (by omega) (by omega) hP hS (lv_sub hl [0, 1, 2, 3, 4] rfl)
    have e3 : 1 = (bi (cwK rows gone wr 0)) := by simp [cwK, allB, bi, c_5]
    have hl : lv_has ls 5 [(4, .int 0), (3, .int (bi (cwK rows gone wr 0))), (0, .ref (q 9)), (1, .int (nI gone)), (2, .int (nI wr))] := by rw [← e3]; exact hl
    exact L17 _ 0 _ _ _ (Nat.lt_succ_self _) (Nat.zero_le _) hP hS (lv_sub hl [0, 1, 2, 3, 4] rfl)

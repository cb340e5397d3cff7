/-! the class: loops and public reading calls -/
set_option maxHeartbeats 4000000 in
set_option maxRecDepth 100000 in
theorem c_X0_breachesAt (l : Launch) (D : va_G) (q : Nat → Nat) (F : Nat → Nat → Int32) (n : Nat) (R : Nat → Int32) (cI cZ : ClassId) (g : Nat) (p : Int32) (hw : WF F n) (hg : g < n) : Met l yX0_breachesAt wsX0_breachesAt ({ frames := 4, cells := 0, slots := 0, locals := 110 }) (va_Pc [.ref (q 9), .int (nI g), .int p] (rW D (wX q F (nI n) R cI cZ) (tIZ cI cZ))) (RO (fun r => r = nI (sAt F n g p))) 0 0 nA := by
  refine ro_of (own := RX0) (cc := cX0_breachesAt) (maxL := 5) (ret := (some .int)) (by decide) rfl rfl (Nat.le_of_ble_eq_true rfl) ?_
  intro p9 e9 s m9 a9 below meth c9 ls hx hb hr hml hlocks hown hts hP hK hl
  have hin : ∀ w ∈ wsX00, w ∈ wsX0_breachesAt := by decide +kernel
  have f35 := hts (.fieldLink RX0 35 "DangerousGoods" "count" "I") (by decide +kernel)
  have hS : va_S nA s.heap s.heap [] := va_S.rf
  have hl : lv_has ls 5 [(0, .ref (q 9)), (1, .int (nI g)), (2, .int p)] := hl
  refine lv_iconst (v := 0) hx hb dX0_breachesAt_0 (by decide) ?_
  refine lv_istore_n (lv' := [(3, .int 0), (0, .ref (q 9)), (1, .int (nI g)), (2, .int p)]) hx hb dX0_breachesAt_1 rfl hl (by decide) rfl (fun ls hl => ?_)
  refine lv_iconst (v := 0) hx hb dX0_breachesAt_2 (by decide) ?_
  refine lv_istore (lv' := [(4, .int 0), (3, .int 0), (0, .ref (q 9)), (1, .int (nI g)), (2, .int p)]) hx hb dX0_breachesAt_3 hl (by decide) rfl (fun ls hl => ?_)
  have L5 : ∀ (d9 : Nat) (k : Nat) (H : Heap) (locs : List Loc) (ls : Array Slot), n - k < d9 → (k ≤ n) → va_P D vwCl (wX q F (nI n) R cI cZ) H → va_S nA s.heap H locs → lv_has ls 5 [(4, .int (nI k)), (3, .int (nI (bs (fun k => if k = g then false else sBreach F g p k) k))), (0, .ref (q 9)), (1, .int (nI g)), (2, .int p)] → W p9 l e9 ({ frames := 4, cells := 0, slots := 0, locals := 110 }) s m9 a9 below meth c9 H locs 0 0 (MQ below (RO (fun r => r = nI (sAt F n g p))) a9 s 0 0 nA) (F0 m9 5 ls []) := by
    intro d9
    induction d9 with
    | zero => intro k H locs ls h9; exact absurd h9 (Nat.not_lt_zero _)
    | succ d9 ih5 =>
      intro k H locs ls hd5 hk hP hS hl
      refine lv_iload hx hb dX0_breachesAt_5 (lv_at hl 0 rfl) ?_
      refine lv_aload_n hx hb dX0_breachesAt_7 rfl (lv_at hl 2 rfl) ?_
      refine va_get (D := D) (ci := 0) (v := .int (nI n)) hx hb hts hin hown hK hP 0 rfl rfl 8 (by decide) f35 (fun _ h9 => h9) rfl dX0_breachesAt_8 ?_
      refine lv_icmp_ge (x := (nI k)) (y := (nI n)) (tgt := 44) hx hb dX0_breachesAt_11 (by decide) (fun c_11 => ?_) (fun c_11 => ?_)
      · have hk11 : k = n := Nat.le_antisymm hk (nI_ge_of c_11 (by have := hw.n; omega) (by have := hw.n; omega))
        refine lv_iload_n hx hb dX0_breachesAt_44 rfl (lv_at hl 1 rfl) ?_
        exact W.iret hx hb hr (fun t ht hW => ⟨⟨_, (), rfl, (by show (nI (bs (fun k => if k = g then false else sBreach F g p k) k)) = nI (sAt F n g p); rw [← hk11]; rfl), trivial⟩, hS.F ht⟩) hS.2.2 dX0_breachesAt_45
      · have hk11 : k < n := nI_lt_of c_11 (by have := hw.n; omega)
        refine lv_iload hx hb dX0_breachesAt_14 (lv_at hl 0 rfl) ?_
        refine lv_iload_n hx hb dX0_breachesAt_16 rfl (lv_at hl 3 rfl) ?_
        refine lv_icmp_eq (x := (nI k)) (y := (nI g)) (tgt := 38) hx hb dX0_breachesAt_17 (by decide) (fun c_17 => ?_) (fun c_17 => ?_)
        · have c_17 : k = g := (nI_eq (by have := hw.n; omega) (by have := hw.n; omega)).mp c_17
          refine lv_iinc (v := (nI (k + 1))) (lv' := [(4, .int (nI (k + 1))), (3, .int (nI (bs (fun k => if k = g then false else sBreach F g p k) k))), (0, .ref (q 9)), (1, .int (nI g)), (2, .int p)]) hx hb dX0_breachesAt_38 hl (k := 0) rfl (nI_1 k) (by decide) rfl (fun ls hl => ?_)
          refine lv_goto (tgt := 5) hx hb dX0_breachesAt_41 (by decide) ?_
          have e3 : (nI (bs (fun k => if k = g then false else sBreach F g p k) k)) = nI (bs (fun k => if k = g then false else sBreach F g p k) (k + 1)) := bs_f (by simp [eq_false c_11, eq_true c_17])
          rw [e3] at hl
          exact ih5 (k + 1) _ _ _ (by omega) (by omega) hP hS (lv_sub hl [0, 1, 2, 3, 4] rfl)
        · have c_17 : ¬ k = g := fun j => c_17 (by rw [j])
          refine lv_aload_n hx hb dX0_breachesAt_20 rfl (lv_at hl 2 rfl) ?_
          refine lv_iload_n hx hb dX0_breachesAt_21 rfl (lv_at hl 3 rfl) ?_
          refine lv_iload_n hx hb dX0_breachesAt_22 rfl (lv_at hl 4 rfl) ?_
          refine lv_iload hx hb dX0_breachesAt_23 (lv_at hl 0 rfl) ?_
          refine ro_V (As := [.int (nI g), .int p, .int (nI k)]) (rest := []) ⟨hx, hb, hml, hown, hts⟩ (c_X0_wouldBreach l D q F n R cI cZ g p k hw hg hk11) (cwV 3 hts gX0_breachesAt_X0_wouldBreach rfl rfl rfl (by decide +kernel) ⟨Nat.le_of_ble_eq_true rfl, Nat.le_of_ble_eq_true rfl⟩) hK hP hP (va_recv hK hP (ci := 0) (q0 := 0) rfl rfl) hS rfl hl.1 rfl (Nat.le_of_ble_eq_true rfl) dX0_breachesAt_25 ⟨Nat.le_of_ble_eq_true rfl, Nat.le_of_ble_eq_true rfl⟩ (fun r H locs hr9 hP hS => ?_)
          subst hr9
          refine lv_if_eq (x := (bi (sBreach F g p k))) (tgt := 38) hx hb dX0_breachesAt_28 (by decide) (fun c_28 => ?_) (fun c_28 => ?_)
          · have c_28 := bi_e0.mp c_28
            refine lv_iinc (v := (nI (k + 1))) (lv' := [(4, .int (nI (k + 1))), (3, .int (nI (bs (fun k => if k = g then false else sBreach F g p k) k))), (0, .ref (q 9)), (1, .int (nI g)), (2, .int p)]) hx hb dX0_breachesAt_38 hl (k := 0) rfl (nI_1 k) (by decide) rfl (fun ls hl => ?_)
            refine lv_goto (tgt := 5) hx hb dX0_breachesAt_41 (by decide) ?_
            have e3 : (nI (bs (fun k => if k = g then false else sBreach F g p k) k)) = nI (bs (fun k => if k = g then false else sBreach F g p k) (k + 1)) := bs_f (by simp [eq_false c_11, eq_false c_17, c_28])
            rw [e3] at hl
            exact ih5 (k + 1) _ _ _ (by omega) (by omega) hP hS (lv_sub hl [0, 1, 2, 3, 4] rfl)
          · have c_28 := bi_n0.mp c_28
            refine lv_iload_n hx hb dX0_breachesAt_31 rfl (lv_at hl 1 rfl) ?_
            refine lv_iconst (v := 1) hx hb dX0_breachesAt_32 (by decide) ?_
            refine lv_iload hx hb dX0_breachesAt_33 (lv_at hl 0 rfl) ?_
            refine lv_ishl hx hb (x := (1 : Int32)) (y := (nI k)) dX0_breachesAt_35 ?_
            refine lv_ior hx hb (x := (nI (bs (fun k => if k = g then false else sBreach F g p k) k))) (y := ((1 : Int32) <<< ((nI k) &&& 31))) dX0_breachesAt_36 ?_
            refine lv_istore_n (lv' := [(3, .int ((nI (bs (fun k => if k = g then false else sBreach F g p k) k)) ||| ((1 : Int32) <<< ((nI k) &&& 31)))), (4, .int (nI k)), (0, .ref (q 9)), (1, .int (nI g)), (2, .int p)]) hx hb dX0_breachesAt_37 rfl hl (by decide) rfl (fun ls hl => ?_)
            refine lv_iinc (v := (nI (k + 1))) (lv' := [(4, .int (nI (k + 1))), (3, .int ((nI (bs (fun k => if k = g then false else sBreach F g p k) k)) ||| ((1 : Int32) <<< ((nI k) &&& 31)))), (0, .ref (q 9)), (1, .int (nI g)), (2, .int p)]) hx hb dX0_breachesAt_38 hl (k := 1) rfl (nI_1 k) (by decide) rfl (fun ls hl => ?_)
            refine lv_goto (tgt := 5) hx hb dX0_breachesAt_41 (by decide) ?_
            have e3 : ((nI (bs (fun k => if k = g then false else sBreach F g p k) k)) ||| ((1 : Int32) <<< ((nI k) &&& 31))) = nI (bs (fun k => if k = g then false else sBreach F g p k) (k + 1)) := bs_t (by have := hw.n; omega) (by simp [eq_false c_11, eq_false c_17, c_28])
            rw [e3] at hl
            exact ih5 (k + 1) _ _ _ (by omega) (by omega) hP hS (lv_sub hl [0, 1, 2, 3, 4] rfl)
  exact L5 _ 0 _ _ _ (Nat.lt_succ_self _) (Nat.zero_le _) hP hS (lv_sub hl [0, 1, 2, 3, 4] rfl)
set_option maxHeartbeats 4000000 in
set_option maxRecDepth 100000 in
theorem c_X0_wouldBeClean (l : Launch) (D : va_G) (q : Nat → Nat) (F : Nat → Nat → Int32) (n : Nat) (R : Nat → Int32) (cI cZ : ClassId) (g : Nat) (p : Int32) (hw : WF F n) (hg : g < n) (hp : okP p) : Met l yX0_wouldBeClean wsX0_wouldBeClean ({ frames := 5, cells := 0, slots := 0, locals := 134 }) (va_Pc [.ref (q 9), .int (nI g), .int p] (rW D (wX q F (nI n) R cI cZ) (tIZ cI cZ))) (RO (fun r => r = bi (sClean F n g p))) 0 0 nA := by
  refine ro_of (own := RX0) (cc := cX0_wouldBeClean) (maxL := 3) (ret := (some .boolean)) (by decide) rfl rfl (Nat.le_of_ble_eq_true rfl) ?_
  intro p9 e9 s m9 a9 below meth c9 ls hx hb hr hml hlocks hown hts hP hK hl
  have hS : va_S nA s.heap s.heap [] := va_S.rf
  have hl : lv_has ls 3 [(0, .ref (q 9)), (1, .int (nI g)), (2, .int p)] := hl
  refine lv_aload_n hx hb dX0_wouldBeClean_0 rfl (lv_at hl 0 rfl) ?_
  refine lv_iload_n hx hb dX0_wouldBeClean_1 rfl (lv_at hl 1 rfl) ?_
  refine lv_iload_n hx hb dX0_wouldBeClean_2 rfl (lv_at hl 2 rfl) ?_
  refine ro_V (As := [.int (nI g), .int p]) (rest := []) ⟨hx, hb, hml, hown, hts⟩ (c_X0_wouldBeMisplaced l D q F n R cI cZ g p hw hg hp) (cwV 2 hts gX0_wouldBeClean_X0_wouldBeMisplaced rfl rfl rfl (by decide +kernel) ⟨Nat.le_of_ble_eq_true rfl, Nat.le_of_ble_eq_true rfl⟩) hK hP hP (va_recv hK hP (ci := 0) (q0 := 0) rfl rfl) hS rfl hl.1 rfl (Nat.le_of_ble_eq_true rfl) dX0_wouldBeClean_3 ⟨Nat.le_of_ble_eq_true rfl, Nat.le_of_ble_eq_true rfl⟩ (fun r H locs hr9 hP hS => ?_)
  subst hr9
  refine lv_if_ne (x := (bi (sMis F g p))) (tgt := 22) hx hb dX0_wouldBeClean_6 (by decide) (fun c_6 => ?_) (fun c_6 => ?_)
  · have c_6 := bi_n0.mp c_6
    refine lv_iconst (v := 0) hx hb dX0_wouldBeClean_22 (by decide) ?_
    exact W.zret hx hb hr zn0 (fun t ht hW => ⟨⟨_, (), rfl, (by show 0 = bi (sClean F n g p); first | (simp only [bi, sClean, c_6, reduceIte, Bool.false_eq_true, Bool.true_eq_false]; done) | (simp [bi, sClean, c_6]; done)), trivial⟩, hS.F ht⟩) hS.2.2 dX0_wouldBeClean_23
  · have c_6 := bi_e0.mp c_6
    refine lv_aload_n hx hb dX0_wouldBeClean_9 rfl (lv_at hl 0 rfl) ?_
    refine lv_iload_n hx hb dX0_wouldBeClean_10 rfl (lv_at hl 1 rfl) ?_
    refine lv_iload_n hx hb dX0_wouldBeClean_11 rfl (lv_at hl 2 rfl) ?_
    refine ro_V (As := [.int (nI g), .int p]) (rest := []) ⟨hx, hb, hml, hown, hts⟩ (c_X0_breachesAt l D q F n R cI cZ g p hw hg) (cwV 2 hts gX0_wouldBeClean_X0_breachesAt rfl rfl rfl (by decide +kernel) ⟨Nat.le_of_ble_eq_true rfl, Nat.le_of_ble_eq_true rfl⟩) hK hP hP (va_recv hK hP (ci := 0) (q0 := 0) rfl rfl) hS rfl hl.1 rfl (Nat.le_of_ble_eq_true rfl) dX0_wouldBeClean_12 ⟨Nat.le_of_ble_eq_true rfl, Nat.le_of_ble_eq_true rfl⟩ (fun r H locs hr9 hP hS => ?_)
    subst hr9
    refine lv_if_ne (x := (nI (sAt F n g p))) (tgt := 22) hx hb dX0_wouldBeClean_15 (by decide) (fun c_15 => ?_) (fun c_15 => ?_)
    · skip
      refine lv_iconst (v := 0) hx hb dX0_wouldBeClean_22 (by decide) ?_
      exact W.zret hx hb hr zn0 (fun t ht hW => ⟨⟨_, (), rfl, (by show 0 = bi (sClean F n g p); first | (simp only [bi, sClean, c_6, eq_false c_15, reduceIte, Bool.false_eq_true, Bool.true_eq_false]; done) | (simp [bi, sClean, c_6, eq_false c_15]; done)), trivial⟩, hS.F ht⟩) hS.2.2 dX0_wouldBeClean_23
    · skip
      refine lv_iconst (v := 1) hx hb dX0_wouldBeClean_18 (by decide) ?_
      refine lv_goto (tgt := 23) hx hb dX0_wouldBeClean_19 (by decide) ?_
      exact W.zret hx hb hr zn1 (fun t ht hW => ⟨⟨_, (), rfl, (by show 1 = bi (sClean F n g p); first | (simp only [bi, sClean, c_6, eq_true c_15, reduceIte, Bool.false_eq_true, Bool.true_eq_false]; done) | (simp [bi, sClean, c_6, eq_true c_15]; done)), trivial⟩, hS.F ht⟩) hS.2.2 dX0_wouldBeClean_23
set_option maxHeartbeats 4000000 in
set_option maxRecDepth 100000 in
theorem c_X0_distance (l : Launch) (hfl : l.stackTraces = false) (D : va_G) (q : Nat → Nat) (F : Nat → Nat → Int32) (n : Nat) (R : Nat → Int32) (cI cZ : ClassId) (a : Int32) (b : Int32) : vx_Met l yX0_distance wsX0_distance ({ frames := 8, cells := 2, slots := 12, locals := 132 }) (va_Pc [.ref (q 9), .int a, .int b] (tW D (wX q F (nI n) R cI cZ) (tIZ cI cZ))) (RO (fun r => r = sDist a b ∧ thD a b = 0)) (XB (fun E => E = "java/lang/IllegalArgumentException" ∧ thD a b = 1)) 2 12 nA := by
  refine tx_of (own := RX0) (cc := cX0_distance) (maxL := 3) (ret := (some .int)) (by decide) rfl rfl (Nat.le_of_ble_eq_true rfl) ?_
  intro p9 e9 s m9 a9 below meth c9 ls hx hb hr hml hlocks hown hts htab ht hP hK hl
  have hS : va_S nA s.heap s.heap [] := va_S.rf
  have hl : lv_has ls 3 [(0, .ref (q 9)), (1, .int a), (2, .int b)] := hl
  refine lv_iload_n hx hb dX0_distance_0 rfl (lv_at hl 1 rfl) ?_
  refine tx_S (As := [.int a]) (rest := []) ⟨hx, hb, hml, hown, hts⟩ (c_X0_checkPlace l hfl a) (va_cwS 1 hts gX0_distance_X0_checkPlace rfl rfl rfl (by decide +kernel) ⟨Nat.le_of_ble_eq_true rfl, Nat.le_of_ble_eq_true rfl⟩) ht hP hS rfl hl.1 rfl (Nat.le_of_ble_eq_true rfl) dX0_distance_1 ⟨Nat.le_of_ble_eq_true rfl, Nat.le_of_ble_eq_true rfl⟩ (fun E ce q9 H locs hE hP hS hce hcv hcl => tx_out htab hlocks hS hce hcv hcl (⟨hE.1, thD_1 (Or.inl hE.2)⟩) (Nat.le_of_ble_eq_true rfl) (Nat.le_of_ble_eq_true rfl)) (fun H locs h_1 hP hS => ?_)
  refine lv_iload_n hx hb dX0_distance_4 rfl (lv_at hl 2 rfl) ?_
  refine tx_S (As := [.int b]) (rest := []) ⟨hx, hb, hml, hown, hts⟩ (c_X0_checkPlace l hfl b) (va_cwS 1 hts gX0_distance_X0_checkPlace rfl rfl rfl (by decide +kernel) ⟨Nat.le_of_ble_eq_true rfl, Nat.le_of_ble_eq_true rfl⟩) ht hP hS rfl hl.1 rfl (Nat.le_of_ble_eq_true rfl) dX0_distance_5 ⟨Nat.le_of_ble_eq_true rfl, Nat.le_of_ble_eq_true rfl⟩ (fun E ce q9 H locs hE hP hS hce hcv hcl => tx_out htab hlocks hS hce hcv hcl (⟨hE.1, thD_1 (Or.inr hE.2)⟩) (Nat.le_of_ble_eq_true rfl) (Nat.le_of_ble_eq_true rfl)) (fun H locs h_5 hP hS => ?_)
  refine lv_iload_n hx hb dX0_distance_8 rfl (lv_at hl 1 rfl) ?_
  refine lv_iload_n hx hb dX0_distance_9 rfl (lv_at hl 2 rfl) ?_
  refine ro_S (As := [.int a, .int b]) (rest := []) ⟨hx, hb, hml, hown, hts⟩ (c_X0_distanceBetween l a b) (va_cwS 2 hts gX0_distance_X0_distanceBetween rfl rfl rfl (by decide +kernel) ⟨Nat.le_of_ble_eq_true rfl, Nat.le_of_ble_eq_true rfl⟩) hP hS rfl hl.1 rfl (Nat.le_of_ble_eq_true rfl) dX0_distance_10 ⟨Nat.le_of_ble_eq_true rfl, Nat.le_of_ble_eq_true rfl⟩ (fun r H locs hr9 hP hS => ?_)
  subst hr9
  refine W.widen (k := 2) (n := 12) (Nat.le_of_ble_eq_true rfl) (Nat.le_of_ble_eq_true rfl) ?_
  exact vx_ret (W.iret hx hb hr (fun t ht hW => ⟨⟨_, (), rfl, (⟨rfl, thD_0 h_1 h_5⟩), trivial⟩, hS.F ht⟩) hS.2.2 dX0_distance_13)
set_option maxHeartbeats 4000000 in
set_option maxRecDepth 100000 in
theorem c_X0_goods (l : Launch) (D : va_G) (q : Nat → Nat) (F : Nat → Nat → Int32) (n : Nat) (R : Nat → Int32) (cI cZ : ClassId) : Met l yX0_goods wsX0_goods ({ frames := 0, cells := 0, slots := 0, locals := 0 }) (va_Pc [.ref (q 9)] (rW D (wX q F (nI n) R cI cZ) (tIZ cI cZ))) (RO (fun r => r = nI n)) 0 0 nA := by
  refine ro_of (own := RX0) (cc := cX0_goods) (maxL := 1) (ret := (some .int)) (by decide) rfl rfl (Nat.le_of_ble_eq_true rfl) ?_
  intro p9 e9 s m9 a9 below meth c9 ls hx hb hr hml hlocks hown hts hP hK hl
  have hin : ∀ w ∈ wsX00, w ∈ wsX0_goods := by decide +kernel
  have f35 := hts (.fieldLink RX0 35 "DangerousGoods" "count" "I") (by decide +kernel)
  have hS : va_S nA s.heap s.heap [] := va_S.rf
  have hl : lv_has ls 1 [(0, .ref (q 9))] := hl
  refine lv_aload_n hx hb dX0_goods_0 rfl (lv_at hl 0 rfl) ?_
  refine va_get (D := D) (ci := 0) (v := .int (nI n)) hx hb hts hin hown hK hP 0 rfl rfl 8 (by decide) f35 (fun _ h9 => h9) rfl dX0_goods_1 ?_
  exact W.iret hx hb hr (fun t ht hW => ⟨⟨_, (), rfl, rfl, trivial⟩, hS.F ht⟩) hS.2.2 dX0_goods_4
set_option maxHeartbeats 4000000 in
set_option maxRecDepth 100000 in
theorem c_X0_placeOf (l : Launch) (hfl : l.stackTraces = false) (D : va_G) (q : Nat → Nat) (F : Nat → Nat → Int32) (n : Nat) (R : Nat → Int32) (cI cZ : ClassId) (v : Int32) (hw : WF F n) : vx_Met l yX0_placeOf wsX0_placeOf ({ frames := 7, cells := 1, slots := 6, locals := 111 }) (va_Pc [.ref (q 9), .int v] (tW D (wX q F (nI n) R cI cZ) (tIZ cI cZ))) (RO (fun r => r = F 7 (gi v) ∧ th1 n v = 0)) (XB (fun E => E = "java/lang/IndexOutOfBoundsException" ∧ th1 n v = 1)) 1 6 nA := by
  refine tx_of (own := RX0) (cc := cX0_placeOf) (maxL := 2) (ret := (some .int)) (by decide) rfl rfl (Nat.le_of_ble_eq_true rfl) ?_
  intro p9 e9 s m9 a9 below meth c9 ls hx hb hr hml hlocks hown hts htab ht hP hK hl
  have hin : ∀ w ∈ wsX00, w ∈ wsX0_placeOf := by decide +kernel
  have f32 := hts (.fieldLink RX0 32 "DangerousGoods" "places" "[I") (by decide +kernel)
  have hS : va_S nA s.heap s.heap [] := va_S.rf
  have hl : lv_has ls 2 [(0, .ref (q 9)), (1, .int v)] := hl
  refine lv_aload_n hx hb dX0_placeOf_0 rfl (lv_at hl 0 rfl) ?_
  refine lv_iload_n hx hb dX0_placeOf_1 rfl (lv_at hl 1 rfl) ?_
  refine tx_V (As := [.int v]) (rest := []) ⟨hx, hb, hml, hown, hts⟩ (c_X0_checkGoods l hfl D q F n R cI cZ v hw.n) (cwV 1 hts gX0_placeOf_X0_checkGoods rfl rfl rfl (by decide +kernel) ⟨Nat.le_of_ble_eq_true rfl, Nat.le_of_ble_eq_true rfl⟩) ht hK hP hP (va_recv hK hP (ci := 0) (q0 := 0) rfl rfl) hS rfl hl.1 rfl (Nat.le_of_ble_eq_true rfl) dX0_placeOf_2 ⟨Nat.le_of_ble_eq_true rfl, Nat.le_of_ble_eq_true rfl⟩ (fun E ce q9 H locs hE hP hS hce hcv hcl => tx_out htab hlocks hS hce hcv hcl (⟨hE.1, th1_1 hE.2⟩) (Nat.le_of_ble_eq_true rfl) (Nat.le_of_ble_eq_true rfl)) (fun H locs h_2 hP hS => ?_)
  obtain ⟨g, hg, rfl⟩ := (gd_iff hw.n).mp h_2
  have eg : gi (nI g) = g := gi_nI (by have := hw.n; omega)
  refine lv_aload_n hx hb dX0_placeOf_5 rfl (lv_at hl 0 rfl) ?_
  refine va_get (D := D) (ci := 0) (v := .ref (q 7)) hx hb hts hin hown hK hP 0 rfl rfl 7 (by decide) f32 (fun _ h9 => h9) rfl dX0_placeOf_6 ?_
  refine lv_iload_n hx hb dX0_placeOf_9 rfl (lv_at hl 1 rfl) ?_
  refine xiald hx hb hK hP 8 0 rfl rfl (g := g) (hw.g hg) (by decide) dX0_placeOf_10 ?_
  refine W.widen (k := 1) (n := 6) (Nat.le_of_ble_eq_true rfl) (Nat.le_of_ble_eq_true rfl) ?_
  exact vx_ret (W.iret hx hb hr (fun t ht hW => ⟨⟨_, (), rfl, (by show (F 7 g) = F 7 (gi (nI g)) ∧ th1 n (nI g) = 0; rw [eg]; exact ⟨rfl, th1_0 h_2⟩), trivial⟩, hS.F ht⟩) hS.2.2 dX0_placeOf_11)
set_option maxHeartbeats 4000000 in
set_option maxRecDepth 100000 in
theorem c_X0_isLimited (l : Launch) (hfl : l.stackTraces = false) (D : va_G) (q : Nat → Nat) (F : Nat → Nat → Int32) (n : Nat) (R : Nat → Int32) (cI cZ : ClassId) (v : Int32) (hw : WF F n) : vx_Met l yX0_isLimited wsX0_isLimited ({ frames := 7, cells := 1, slots := 6, locals := 111 }) (va_Pc [.ref (q 9), .int v] (tW D (wX q F (nI n) R cI cZ) (tIZ cI cZ))) (RO (fun r => r = bi (sLim F (gi v)) ∧ th1 n v = 0)) (XB (fun E => E = "java/lang/IndexOutOfBoundsException" ∧ th1 n v = 1)) 1 6 nA := by
  refine tx_of (own := RX0) (cc := cX0_isLimited) (maxL := 2) (ret := (some .boolean)) (by decide) rfl rfl (Nat.le_of_ble_eq_true rfl) ?_
  intro p9 e9 s m9 a9 below meth c9 ls hx hb hr hml hlocks hown hts htab ht hP hK hl
  have hS : va_S nA s.heap s.heap [] := va_S.rf
  have hl : lv_has ls 2 [(0, .ref (q 9)), (1, .int v)] := hl
  refine lv_aload_n hx hb dX0_isLimited_0 rfl (lv_at hl 0 rfl) ?_
  refine lv_iload_n hx hb dX0_isLimited_1 rfl (lv_at hl 1 rfl) ?_
  refine tx_V (As := [.int v]) (rest := []) ⟨hx, hb, hml, hown, hts⟩ (c_X0_checkGoods l hfl D q F n R cI cZ v hw.n) (cwV 1 hts gX0_isLimited_X0_checkGoods rfl rfl rfl (by decide +kernel) ⟨Nat.le_of_ble_eq_true rfl, Nat.le_of_ble_eq_true rfl⟩) ht hK hP hP (va_recv hK hP (ci := 0) (q0 := 0) rfl rfl) hS rfl hl.1 rfl (Nat.le_of_ble_eq_true rfl) dX0_isLimited_2 ⟨Nat.le_of_ble_eq_true rfl, Nat.le_of_ble_eq_true rfl⟩ (fun E ce q9 H locs hE hP hS hce hcv hcl => tx_out htab hlocks hS hce hcv hcl (⟨hE.1, th1_1 hE.2⟩) (Nat.le_of_ble_eq_true rfl) (Nat.le_of_ble_eq_true rfl)) (fun H locs h_2 hP hS => ?_)
  obtain ⟨g, hg, rfl⟩ := (gd_iff hw.n).mp h_2
  have eg : gi (nI g) = g := gi_nI (by have := hw.n; omega)
  refine lv_aload_n hx hb dX0_isLimited_5 rfl (lv_at hl 0 rfl) ?_
  refine lv_iload_n hx hb dX0_isLimited_6 rfl (lv_at hl 1 rfl) ?_
  refine ro_V (As := [.int (nI g)]) (rest := []) ⟨hx, hb, hml, hown, hts⟩ (c_X0_areLimited l D q F n R cI cZ g hw hg) (cwV 1 hts gX0_isLimited_X0_areLimited rfl rfl rfl (by decide +kernel) ⟨Nat.le_of_ble_eq_true rfl, Nat.le_of_ble_eq_true rfl⟩) hK hP hP (va_recv hK hP (ci := 0) (q0 := 0) rfl rfl) hS rfl hl.1 rfl (Nat.le_of_ble_eq_true rfl) dX0_isLimited_7 ⟨Nat.le_of_ble_eq_true rfl, Nat.le_of_ble_eq_true rfl⟩ (fun r H locs hr9 hP hS => ?_)
  subst hr9
  refine W.widen (k := 1) (n := 6) (Nat.le_of_ble_eq_true rfl) (Nat.le_of_ble_eq_true rfl) ?_
  exact vx_ret (W.zret hx hb hr (bi_nar _) (fun t ht hW => ⟨⟨_, (), rfl, (by show (bi (sLim F g)) = bi (sLim F (gi (nI g))) ∧ th1 n (nI g) = 0; rw [eg]; exact ⟨rfl, th1_0 h_2⟩), trivial⟩, hS.F ht⟩) hS.2.2 dX0_isLimited_10)
set_option maxHeartbeats 4000000 in
set_option maxRecDepth 100000 in
theorem c_X0_isExcepted (l : Launch) (hfl : l.stackTraces = false) (D : va_G) (q : Nat → Nat) (F : Nat → Nat → Int32) (n : Nat) (R : Nat → Int32) (cI cZ : ClassId) (v : Int32) (hw : WF F n) : vx_Met l yX0_isExcepted wsX0_isExcepted ({ frames := 7, cells := 1, slots := 6, locals := 111 }) (va_Pc [.ref (q 9), .int v] (tW D (wX q F (nI n) R cI cZ) (tIZ cI cZ))) (RO (fun r => r = bi (sExc F (gi v)) ∧ th1 n v = 0)) (XB (fun E => E = "java/lang/IndexOutOfBoundsException" ∧ th1 n v = 1)) 1 6 nA := by
  refine tx_of (own := RX0) (cc := cX0_isExcepted) (maxL := 2) (ret := (some .boolean)) (by decide) rfl rfl (Nat.le_of_ble_eq_true rfl) ?_
  intro p9 e9 s m9 a9 below meth c9 ls hx hb hr hml hlocks hown hts htab ht hP hK hl
  have hS : va_S nA s.heap s.heap [] := va_S.rf
  have hl : lv_has ls 2 [(0, .ref (q 9)), (1, .int v)] := hl
  refine lv_aload_n hx hb dX0_isExcepted_0 rfl (lv_at hl 0 rfl) ?_
  refine lv_iload_n hx hb dX0_isExcepted_1 rfl (lv_at hl 1 rfl) ?_
  refine tx_V (As := [.int v]) (rest := []) ⟨hx, hb, hml, hown, hts⟩ (c_X0_checkGoods l hfl D q F n R cI cZ v hw.n) (cwV 1 hts gX0_isExcepted_X0_checkGoods rfl rfl rfl (by decide +kernel) ⟨Nat.le_of_ble_eq_true rfl, Nat.le_of_ble_eq_true rfl⟩) ht hK hP hP (va_recv hK hP (ci := 0) (q0 := 0) rfl rfl) hS rfl hl.1 rfl (Nat.le_of_ble_eq_true rfl) dX0_isExcepted_2 ⟨Nat.le_of_ble_eq_true rfl, Nat.le_of_ble_eq_true rfl⟩ (fun E ce q9 H locs hE hP hS hce hcv hcl => tx_out htab hlocks hS hce hcv hcl (⟨hE.1, th1_1 hE.2⟩) (Nat.le_of_ble_eq_true rfl) (Nat.le_of_ble_eq_true rfl)) (fun H locs h_2 hP hS => ?_)
  obtain ⟨g, hg, rfl⟩ := (gd_iff hw.n).mp h_2
  have eg : gi (nI g) = g := gi_nI (by have := hw.n; omega)
  refine lv_aload_n hx hb dX0_isExcepted_5 rfl (lv_at hl 0 rfl) ?_
  refine lv_iload_n hx hb dX0_isExcepted_6 rfl (lv_at hl 1 rfl) ?_
  refine ro_V (As := [.int (nI g)]) (rest := []) ⟨hx, hb, hml, hown, hts⟩ (c_X0_areExcepted l D q F n R cI cZ g hw hg) (cwV 1 hts gX0_isExcepted_X0_areExcepted rfl rfl rfl (by decide +kernel) ⟨Nat.le_of_ble_eq_true rfl, Nat.le_of_ble_eq_true rfl⟩) hK hP hP (va_recv hK hP (ci := 0) (q0 := 0) rfl rfl) hS rfl hl.1 rfl (Nat.le_of_ble_eq_true rfl) dX0_isExcepted_7 ⟨Nat.le_of_ble_eq_true rfl, Nat.le_of_ble_eq_true rfl⟩ (fun r H locs hr9 hP hS => ?_)
  subst hr9
  refine W.widen (k := 1) (n := 6) (Nat.le_of_ble_eq_true rfl) (Nat.le_of_ble_eq_true rfl) ?_
  exact vx_ret (W.zret hx hb hr (bi_nar _) (fun t ht hW => ⟨⟨_, (), rfl, (by show (bi (sExc F g)) = bi (sExc F (gi (nI g))) ∧ th1 n (nI g) = 0; rw [eg]; exact ⟨rfl, th1_0 h_2⟩), trivial⟩, hS.F ht⟩) hS.2.2 dX0_isExcepted_10)
set_option maxHeartbeats 4000000 in
set_option maxRecDepth 100000 in
theorem c_X0_need (l : Launch) (hfl : l.stackTraces = false) (D : va_G) (q : Nat → Nat) (F : Nat → Nat → Int32) (n : Nat) (R : Nat → Int32) (cI cZ : ClassId) (v : Int32) (w : Int32) (hw : WF F n) : vx_Met l yX0_need wsX0_need ({ frames := 8, cells := 3, slots := 18, locals := 133 }) (va_Pc [.ref (q 9), .int v, .int w] (tW D (wX q F (nI n) R cI cZ) (tIZ cI cZ))) (RO (fun r => r = sNeed F (gi v) (gi w) ∧ th2 n v w = 0)) (XB (fun E => (E = "java/lang/IndexOutOfBoundsException" ∧ th2 n v w = 1) ∨ (E = "java/lang/IllegalArgumentException" ∧ th2 n v w = 2))) 3 18 nA := by
  refine tx_of (own := RX0) (cc := cX0_need) (maxL := 3) (ret := (some .int)) (by decide) rfl rfl (Nat.le_of_ble_eq_true rfl) ?_
  intro p9 e9 s m9 a9 below meth c9 ls hx hb hr hml hlocks hown hts htab ht hP hK hl
  have hS : va_S nA s.heap s.heap [] := va_S.rf
  have hl : lv_has ls 3 [(0, .ref (q 9)), (1, .int v), (2, .int w)] := hl
  refine lv_aload_n hx hb dX0_need_0 rfl (lv_at hl 0 rfl) ?_
  refine lv_iload_n hx hb dX0_need_1 rfl (lv_at hl 1 rfl) ?_
  refine lv_iload_n hx hb dX0_need_2 rfl (lv_at hl 2 rfl) ?_
  refine tx_V (As := [.int v, .int w]) (rest := []) ⟨hx, hb, hml, hown, hts⟩ (c_X0_checkPair l hfl D q F n R cI cZ v w hw.n) (cwV 2 hts gX0_need_X0_checkPair rfl rfl rfl (by decide +kernel) ⟨Nat.le_of_ble_eq_true rfl, Nat.le_of_ble_eq_true rfl⟩) ht hK hP hP (va_recv hK hP (ci := 0) (q0 := 0) rfl rfl) hS rfl hl.1 rfl (Nat.le_of_ble_eq_true rfl) dX0_need_3 ⟨Nat.le_of_ble_eq_true rfl, Nat.le_of_ble_eq_true rfl⟩ (fun E ce q9 H locs hE hP hS hce hcv hcl => tx_out htab hlocks hS hce hcv hcl (hE.elim (fun hE => Or.inl ⟨hE.1, th2_1 hE.2⟩) (fun hE => Or.inr ⟨hE.1, th2_2 hE.2.1 hE.2.2.1 hE.2.2.2⟩)) (Nat.le_of_ble_eq_true rfl) (Nat.le_of_ble_eq_true rfl)) (fun H locs h_3 hP hS => ?_)
  obtain ⟨g, hg, rfl⟩ := (gd_iff hw.n).mp h_3.1
  obtain ⟨h, hh, rfl⟩ := (gd_iff hw.n).mp h_3.2.1
  have eg : gi (nI g) = g := gi_nI (by have := hw.n; omega)
  have eh : gi (nI h) = h := gi_nI (by have := hw.n; omega)
  refine lv_aload_n hx hb dX0_need_6 rfl (lv_at hl 0 rfl) ?_
  refine lv_iload_n hx hb dX0_need_7 rfl (lv_at hl 1 rfl) ?_
  refine lv_iload_n hx hb dX0_need_8 rfl (lv_at hl 2 rfl) ?_
  refine ro_V (As := [.int (nI g), .int (nI h)]) (rest := []) ⟨hx, hb, hml, hown, hts⟩ (c_X0_needOf l D q F n R cI cZ g h hw hg hh) (cwV 2 hts gX0_need_X0_needOf rfl rfl rfl (by decide +kernel) ⟨Nat.le_of_ble_eq_true rfl, Nat.le_of_ble_eq_true rfl⟩) hK hP hP (va_recv hK hP (ci := 0) (q0 := 0) rfl rfl) hS rfl hl.1 rfl (Nat.le_of_ble_eq_true rfl) dX0_need_9 ⟨Nat.le_of_ble_eq_true rfl, Nat.le_of_ble_eq_true rfl⟩ (fun r H locs hr9 hP hS => ?_)
  subst hr9
  refine W.widen (k := 3) (n := 18) (Nat.le_of_ble_eq_true rfl) (Nat.le_of_ble_eq_true rfl) ?_
  exact vx_ret (W.iret hx hb hr (fun t ht hW => ⟨⟨_, (), rfl, (by show (sNeed F g h) = sNeed F (gi (nI g)) (gi (nI h)) ∧ th2 n (nI g) (nI h) = 0; rw [eg, eh]; exact ⟨rfl, th2_0 h_3.1 h_3.2.1 h_3.2.2⟩), trivial⟩, hS.F ht⟩) hS.2.2 dX0_need_12)
set_option maxHeartbeats 4000000 in
set_option maxRecDepth 100000 in
theorem c_X0_areInBreach (l : Launch) (hfl : l.stackTraces = false) (D : va_G) (q : Nat → Nat) (F : Nat → Nat → Int32) (n : Nat) (R : Nat → Int32) (cI cZ : ClassId) (v : Int32) (w : Int32) (hw : WF F n) : vx_Met l yX0_areInBreach wsX0_areInBreach ({ frames := 8, cells := 3, slots := 18, locals := 133 }) (va_Pc [.ref (q 9), .int v, .int w] (tW D (wX q F (nI n) R cI cZ) (tIZ cI cZ))) (RO (fun r => r = bi (sBreach F (gi v) (F 7 (gi v)) (gi w)) ∧ th2 n v w = 0)) (XB (fun E => (E = "java/lang/IndexOutOfBoundsException" ∧ th2 n v w = 1) ∨ (E = "java/lang/IllegalArgumentException" ∧ th2 n v w = 2))) 3 18 nA := by
  refine tx_of (own := RX0) (cc := cX0_areInBreach) (maxL := 3) (ret := (some .boolean)) (by decide) rfl rfl (Nat.le_of_ble_eq_true rfl) ?_
  intro p9 e9 s m9 a9 below meth c9 ls hx hb hr hml hlocks hown hts htab ht hP hK hl
  have hin : ∀ w ∈ wsX00, w ∈ wsX0_areInBreach := by decide +kernel
  have f32 := hts (.fieldLink RX0 32 "DangerousGoods" "places" "[I") (by decide +kernel)
  have hS : va_S nA s.heap s.heap [] := va_S.rf
  have hl : lv_has ls 3 [(0, .ref (q 9)), (1, .int v), (2, .int w)] := hl
  refine lv_aload_n hx hb dX0_areInBreach_0 rfl (lv_at hl 0 rfl) ?_
  refine lv_iload_n hx hb dX0_areInBreach_1 rfl (lv_at hl 1 rfl) ?_
  refine lv_iload_n hx hb dX0_areInBreach_2 rfl (lv_at hl 2 rfl) ?_
  refine tx_V (As := [.int v, .int w]) (rest := []) ⟨hx, hb, hml, hown, hts⟩ (c_X0_checkPair l hfl D q F n R cI cZ v w hw.n) (cwV 2 hts gX0_areInBreach_X0_checkPair rfl rfl rfl (by decide +kernel) ⟨Nat.le_of_ble_eq_true rfl, Nat.le_of_ble_eq_true rfl⟩) ht hK hP hP (va_recv hK hP (ci := 0) (q0 := 0) rfl rfl) hS rfl hl.1 rfl (Nat.le_of_ble_eq_true rfl) dX0_areInBreach_3 ⟨Nat.le_of_ble_eq_true rfl, Nat.le_of_ble_eq_true rfl⟩ (fun E ce q9 H locs hE hP hS hce hcv hcl => tx_out htab hlocks hS hce hcv hcl (hE.elim (fun hE => Or.inl ⟨hE.1, th2_1 hE.2⟩) (fun hE => Or.inr ⟨hE.1, th2_2 hE.2.1 hE.2.2.1 hE.2.2.2⟩)) (Nat.le_of_ble_eq_true rfl) (Nat.le_of_ble_eq_true rfl)) (fun H locs h_3 hP hS => ?_)
  obtain ⟨g, hg, rfl⟩ := (gd_iff hw.n).mp h_3.1
  obtain ⟨h, hh, rfl⟩ := (gd_iff hw.n).mp h_3.2.1
  have eg : gi (nI g) = g := gi_nI (by have := hw.n; omega)
  have eh : gi (nI h) = h := gi_nI (by have := hw.n; omega)
  refine lv_aload_n hx hb dX0_areInBreach_6 rfl (lv_at hl 0 rfl) ?_
  refine lv_iload_n hx hb dX0_areInBreach_7 rfl (lv_at hl 1 rfl) ?_
  refine lv_aload_n hx hb dX0_areInBreach_8 rfl (lv_at hl 0 rfl) ?_
  refine va_get (D := D) (ci := 0) (v := .ref (q 7)) hx hb hts hin hown hK hP 0 rfl rfl 7 (by decide) f32 (fun _ h9 => h9) rfl dX0_areInBreach_9 ?_
  refine lv_iload_n hx hb dX0_areInBreach_12 rfl (lv_at hl 1 rfl) ?_
  refine xiald hx hb hK hP 8 0 rfl rfl (g := g) (hw.g hg) (by decide) dX0_areInBreach_13 ?_
  refine lv_iload_n hx hb dX0_areInBreach_14 rfl (lv_at hl 2 rfl) ?_
  refine ro_V (As := [.int (nI g), .int (F 7 g), .int (nI h)]) (rest := []) ⟨hx, hb, hml, hown, hts⟩ (c_X0_wouldBreach l D q F n R cI cZ g (F 7 g) h hw hg hh) (cwV 3 hts gX0_areInBreach_X0_wouldBreach rfl rfl rfl (by decide +kernel) ⟨Nat.le_of_ble_eq_true rfl, Nat.le_of_ble_eq_true rfl⟩) hK hP hP (va_recv hK hP (ci := 0) (q0 := 0) rfl rfl) hS rfl hl.1 rfl (Nat.le_of_ble_eq_true rfl) dX0_areInBreach_15 ⟨Nat.le_of_ble_eq_true rfl, Nat.le_of_ble_eq_true rfl⟩ (fun r H locs hr9 hP hS => ?_)
  subst hr9
  refine W.widen (k := 3) (n := 18) (Nat.le_of_ble_eq_true rfl) (Nat.le_of_ble_eq_true rfl) ?_
  exact vx_ret (W.zret hx hb hr (bi_nar _) (fun t ht hW => ⟨⟨_, (), rfl, (by show (bi (sBreach F g (F 7 g) h)) = bi (sBreach F (gi (nI g)) (F 7 (gi (nI g))) (gi (nI h))) ∧ th2 n (nI g) (nI h) = 0; rw [eg, eh]; exact ⟨rfl, th2_0 h_3.1 h_3.2.1 h_3.2.2⟩), trivial⟩, hS.F ht⟩) hS.2.2 dX0_areInBreach_18)
set_option maxHeartbeats 4000000 in
set_option maxRecDepth 100000 in
theorem c_X0_isMisplaced (l : Launch) (hfl : l.stackTraces = false) (D : va_G) (q : Nat → Nat) (F : Nat → Nat → Int32) (n : Nat) (R : Nat → Int32) (cI cZ : ClassId) (v : Int32) (hw : WF F n) : vx_Met l yX0_isMisplaced wsX0_isMisplaced ({ frames := 7, cells := 1, slots := 6, locals := 111 }) (va_Pc [.ref (q 9), .int v] (tW D (wX q F (nI n) R cI cZ) (tIZ cI cZ))) (RO (fun r => r = bi (sMis F (gi v) (F 7 (gi v))) ∧ th1 n v = 0)) (XB (fun E => E = "java/lang/IndexOutOfBoundsException" ∧ th1 n v = 1)) 1 6 nA := by
  refine tx_of (own := RX0) (cc := cX0_isMisplaced) (maxL := 2) (ret := (some .boolean)) (by decide) rfl rfl (Nat.le_of_ble_eq_true rfl) ?_
  intro p9 e9 s m9 a9 below meth c9 ls hx hb hr hml hlocks hown hts htab ht hP hK hl
  have hin : ∀ w ∈ wsX00, w ∈ wsX0_isMisplaced := by decide +kernel
  have f32 := hts (.fieldLink RX0 32 "DangerousGoods" "places" "[I") (by decide +kernel)
  have hS : va_S nA s.heap s.heap [] := va_S.rf
  have hl : lv_has ls 2 [(0, .ref (q 9)), (1, .int v)] := hl
  refine lv_aload_n hx hb dX0_isMisplaced_0 rfl (lv_at hl 0 rfl) ?_
  refine lv_iload_n hx hb dX0_isMisplaced_1 rfl (lv_at hl 1 rfl) ?_
  refine tx_V (As := [.int v]) (rest := []) ⟨hx, hb, hml, hown, hts⟩ (c_X0_checkGoods l hfl D q F n R cI cZ v hw.n) (cwV 1 hts gX0_isMisplaced_X0_checkGoods rfl rfl rfl (by decide +kernel) ⟨Nat.le_of_ble_eq_true rfl, Nat.le_of_ble_eq_true rfl⟩) ht hK hP hP (va_recv hK hP (ci := 0) (q0 := 0) rfl rfl) hS rfl hl.1 rfl (Nat.le_of_ble_eq_true rfl) dX0_isMisplaced_2 ⟨Nat.le_of_ble_eq_true rfl, Nat.le_of_ble_eq_true rfl⟩ (fun E ce q9 H locs hE hP hS hce hcv hcl => tx_out htab hlocks hS hce hcv hcl (⟨hE.1, th1_1 hE.2⟩) (Nat.le_of_ble_eq_true rfl) (Nat.le_of_ble_eq_true rfl)) (fun H locs h_2 hP hS => ?_)
  obtain ⟨g, hg, rfl⟩ := (gd_iff hw.n).mp h_2
  have eg : gi (nI g) = g := gi_nI (by have := hw.n; omega)
  refine lv_aload_n hx hb dX0_isMisplaced_5 rfl (lv_at hl 0 rfl) ?_
  refine lv_iload_n hx hb dX0_isMisplaced_6 rfl (lv_at hl 1 rfl) ?_
  refine lv_aload_n hx hb dX0_isMisplaced_7 rfl (lv_at hl 0 rfl) ?_
  refine va_get (D := D) (ci := 0) (v := .ref (q 7)) hx hb hts hin hown hK hP 0 rfl rfl 7 (by decide) f32 (fun _ h9 => h9) rfl dX0_isMisplaced_8 ?_
  refine lv_iload_n hx hb dX0_isMisplaced_11 rfl (lv_at hl 1 rfl) ?_
  refine xiald hx hb hK hP 8 0 rfl rfl (g := g) (hw.g hg) (by decide) dX0_isMisplaced_12 ?_
  refine ro_V (As := [.int (nI g), .int (F 7 g)]) (rest := []) ⟨hx, hb, hml, hown, hts⟩ (c_X0_wouldBeMisplaced l D q F n R cI cZ g (F 7 g) hw hg (hw.p7 hg)) (cwV 2 hts gX0_isMisplaced_X0_wouldBeMisplaced rfl rfl rfl (by decide +kernel) ⟨Nat.le_of_ble_eq_true rfl, Nat.le_of_ble_eq_true rfl⟩) hK hP hP (va_recv hK hP (ci := 0) (q0 := 0) rfl rfl) hS rfl hl.1 rfl (Nat.le_of_ble_eq_true rfl) dX0_isMisplaced_13 ⟨Nat.le_of_ble_eq_true rfl, Nat.le_of_ble_eq_true rfl⟩ (fun r H locs hr9 hP hS => ?_)
  subst hr9
  refine W.widen (k := 1) (n := 6) (Nat.le_of_ble_eq_true rfl) (Nat.le_of_ble_eq_true rfl) ?_
  exact vx_ret (W.zret hx hb hr (bi_nar _) (fun t ht hW => ⟨⟨_, (), rfl, (by show (bi (sMis F g (F 7 g))) = bi (sMis F (gi (nI g)) (F 7 (gi (nI g)))) ∧ th1 n (nI g) = 0; rw [eg]; exact ⟨rfl, th1_0 h_2⟩), trivial⟩, hS.F ht⟩) hS.2.2 dX0_isMisplaced_16)
set_option maxHeartbeats 4000000 in
set_option maxRecDepth 100000 in
theorem c_X0_inBreachWith (l : Launch) (hfl : l.stackTraces = false) (D : va_G) (q : Nat → Nat) (F : Nat → Nat → Int32) (n : Nat) (R : Nat → Int32) (cI cZ : ClassId) (v : Int32) (hw : WF F n) : vx_Met l yX0_inBreachWith wsX0_inBreachWith ({ frames := 7, cells := 1, slots := 6, locals := 134 }) (va_Pc [.ref (q 9), .int v] (tW D (wX q F (nI n) R cI cZ) (tIZ cI cZ))) (RO (fun r => r = nI (sAt F n (gi v) (F 7 (gi v))) ∧ th1 n v = 0)) (XB (fun E => E = "java/lang/IndexOutOfBoundsException" ∧ th1 n v = 1)) 1 6 nA := by
  refine tx_of (own := RX0) (cc := cX0_inBreachWith) (maxL := 2) (ret := (some .int)) (by decide) rfl rfl (Nat.le_of_ble_eq_true rfl) ?_
  intro p9 e9 s m9 a9 below meth c9 ls hx hb hr hml hlocks hown hts htab ht hP hK hl
  have hin : ∀ w ∈ wsX00, w ∈ wsX0_inBreachWith := by decide +kernel
  have f32 := hts (.fieldLink RX0 32 "DangerousGoods" "places" "[I") (by decide +kernel)
  have hS : va_S nA s.heap s.heap [] := va_S.rf
  have hl : lv_has ls 2 [(0, .ref (q 9)), (1, .int v)] := hl
  refine lv_aload_n hx hb dX0_inBreachWith_0 rfl (lv_at hl 0 rfl) ?_
  refine lv_iload_n hx hb dX0_inBreachWith_1 rfl (lv_at hl 1 rfl) ?_
  refine tx_V (As := [.int v]) (rest := []) ⟨hx, hb, hml, hown, hts⟩ (c_X0_checkGoods l hfl D q F n R cI cZ v hw.n) (cwV 1 hts gX0_inBreachWith_X0_checkGoods rfl rfl rfl (by decide +kernel) ⟨Nat.le_of_ble_eq_true rfl, Nat.le_of_ble_eq_true rfl⟩) ht hK hP hP (va_recv hK hP (ci := 0) (q0 := 0) rfl rfl) hS rfl hl.1 rfl (Nat.le_of_ble_eq_true rfl) dX0_inBreachWith_2 ⟨Nat.le_of_ble_eq_true rfl, Nat.le_of_ble_eq_true rfl⟩ (fun E ce q9 H locs hE hP hS hce hcv hcl => tx_out htab hlocks hS hce hcv hcl (⟨hE.1, th1_1 hE.2⟩) (Nat.le_of_ble_eq_true rfl) (Nat.le_of_ble_eq_true rfl)) (fun H locs h_2 hP hS => ?_)
  obtain ⟨g, hg, rfl⟩ := (gd_iff hw.n).mp h_2
  have eg : gi (nI g) = g := gi_nI (by have := hw.n; omega)
  refine lv_aload_n hx hb dX0_inBreachWith_5 rfl (lv_at hl 0 rfl) ?_
  refine lv_iload_n hx hb dX0_inBreachWith_6 rfl (lv_at hl 1 rfl) ?_
  refine lv_aload_n hx hb dX0_inBreachWith_7 rfl (lv_at hl 0 rfl) ?_
  refine va_get (D := D) (ci := 0) (v := .ref (q 7)) hx hb hts hin hown hK hP 0 rfl rfl 7 (by decide) f32 (fun _ h9 => h9) rfl dX0_inBreachWith_8 ?_
  refine lv_iload_n hx hb dX0_inBreachWith_11 rfl (lv_at hl 1 rfl) ?_
  refine xiald hx hb hK hP 8 0 rfl rfl (g := g) (hw.g hg) (by decide) dX0_inBreachWith_12 ?_
  refine ro_V (As := [.int (nI g), .int (F 7 g)]) (rest := []) ⟨hx, hb, hml, hown, hts⟩ (c_X0_breachesAt l D q F n R cI cZ g (F 7 g) hw hg) (cwV 2 hts gX0_inBreachWith_X0_breachesAt rfl rfl rfl (by decide +kernel) ⟨Nat.le_of_ble_eq_true rfl, Nat.le_of_ble_eq_true rfl⟩) hK hP hP (va_recv hK hP (ci := 0) (q0 := 0) rfl rfl) hS rfl hl.1 rfl (Nat.le_of_ble_eq_true rfl) dX0_inBreachWith_13 ⟨Nat.le_of_ble_eq_true rfl, Nat.le_of_ble_eq_true rfl⟩ (fun r H locs hr9 hP hS => ?_)
  subst hr9
  refine W.widen (k := 1) (n := 6) (Nat.le_of_ble_eq_true rfl) (Nat.le_of_ble_eq_true rfl) ?_
  exact vx_ret (W.iret hx hb hr (fun t ht hW => ⟨⟨_, (), rfl, (by show (nI (sAt F n g (F 7 g))) = nI (sAt F n (gi (nI g)) (F 7 (gi (nI g)))) ∧ th1 n (nI g) = 0; rw [eg]; exact ⟨rfl, th1_0 h_2⟩), trivial⟩, hS.F ht⟩) hS.2.2 dX0_inBreachWith_16)
set_option maxHeartbeats 4000000 in
set_option maxRecDepth 100000 in
theorem c_X0_isClean (l : Launch) (D : va_G) (q : Nat → Nat) (F : Nat → Nat → Int32) (n : Nat) (R : Nat → Int32) (cI cZ : ClassId) (hw : WF F n) : Met l yX0_isClean wsX0_isClean ({ frames := 6, cells := 0, slots := 0, locals := 156 }) (va_Pc [.ref (q 9)] (rW D (wX q F (nI n) R cI cZ) (tIZ cI cZ))) (RO (fun r => r = bi (allB (fun k => sClean F n k (F 7 k)) n))) 0 0 nA := by
  refine ro_of (own := RX0) (cc := cX0_isClean) (maxL := 2) (ret := (some .boolean)) (by decide) rfl rfl (Nat.le_of_ble_eq_true rfl) ?_
  intro p9 e9 s m9 a9 below meth c9 ls hx hb hr hml hlocks hown hts hP hK hl
  have hin : ∀ w ∈ wsX00, w ∈ wsX0_isClean := by decide +kernel
  have f32 := hts (.fieldLink RX0 32 "DangerousGoods" "places" "[I") (by decide +kernel)
  have f35 := hts (.fieldLink RX0 35 "DangerousGoods" "count" "I") (by decide +kernel)
  have hS : va_S nA s.heap s.heap [] := va_S.rf
  have hl : lv_has ls 2 [(0, .ref (q 9))] := hl
  refine lv_iconst (v := 0) hx hb dX0_isClean_0 (by decide) ?_
  refine lv_istore_n (lv' := [(1, .int 0), (0, .ref (q 9))]) hx hb dX0_isClean_1 rfl hl (by decide) rfl (fun ls hl => ?_)
  have L2 : ∀ (d9 : Nat) (k : Nat) (H : Heap) (locs : List Loc) (ls : Array Slot), n - k < d9 → (k ≤ n) → (allB (fun k => sClean F n k (F 7 k)) k = true) → va_P D vwCl (wX q F (nI n) R cI cZ) H → va_S nA s.heap H locs → lv_has ls 2 [(1, .int (nI k)), (0, .ref (q 9))] → W p9 l e9 ({ frames := 6, cells := 0, slots := 0, locals := 156 }) s m9 a9 below meth c9 H locs 0 0 (MQ below (RO (fun r => r = bi (allB (fun k => sClean F n k (F 7 k)) n))) a9 s 0 0 nA) (F0 m9 2 ls []) := by
    intro d9
    induction d9 with
    | zero => intro k H locs ls h9; exact absurd h9 (Nat.not_lt_zero _)
    | succ d9 ih2 =>
      intro k H locs ls hd2 hk hA hP hS hl
      refine lv_iload_n hx hb dX0_isClean_2 rfl (lv_at hl 0 rfl) ?_
      refine lv_aload_n hx hb dX0_isClean_3 rfl (lv_at hl 1 rfl) ?_
      refine va_get (D := D) (ci := 0) (v := .int (nI n)) hx hb hts hin hown hK hP 0 rfl rfl 8 (by decide) f35 (fun _ h9 => h9) rfl dX0_isClean_4 ?_
      refine lv_icmp_ge (x := (nI k)) (y := (nI n)) (tgt := 32) hx hb dX0_isClean_7 (by decide) (fun c_7 => ?_) (fun c_7 => ?_)
      · have hk7 : k = n := Nat.le_antisymm hk (nI_ge_of c_7 (by have := hw.n; omega) (by have := hw.n; omega))
        refine lv_iconst (v := 1) hx hb dX0_isClean_32 (by decide) ?_
        exact W.zret hx hb hr zn1 (fun t ht hW => ⟨⟨_, (), rfl, (by show 1 = bi (allB (fun k => sClean F n k (F 7 k)) n); have h9 := hA; rw [hk7] at h9; rw [h9]; rfl), trivial⟩, hS.F ht⟩) hS.2.2 dX0_isClean_33
      · have hk7 : k < n := nI_lt_of c_7 (by have := hw.n; omega)
        refine lv_aload_n hx hb dX0_isClean_10 rfl (lv_at hl 1 rfl) ?_
        refine lv_iload_n hx hb dX0_isClean_11 rfl (lv_at hl 0 rfl) ?_
        refine lv_aload_n hx hb dX0_isClean_12 rfl (lv_at hl 1 rfl) ?_
        refine va_get (D := D) (ci := 0) (v := .ref (q 7)) hx hb hts hin hown hK hP 0 rfl rfl 7 (by decide) f32 (fun _ h9 => h9) rfl dX0_isClean_13 ?_
        refine lv_iload_n hx hb dX0_isClean_16 rfl (lv_at hl 0 rfl) ?_
        refine xiald hx hb hK hP 8 0 rfl rfl (g := k) (hw.g hk7) (by decide) dX0_isClean_17 ?_
        refine ro_V (As := [.int (nI k), .int (F 7 k)]) (rest := []) ⟨hx, hb, hml, hown, hts⟩ (c_X0_wouldBeClean l D q F n R cI cZ k (F 7 k) hw hk7 (hw.p7 hk7)) (cwV 2 hts gX0_isClean_X0_wouldBeClean rfl rfl rfl (by decide +kernel) ⟨Nat.le_of_ble_eq_true rfl, Nat.le_of_ble_eq_true rfl⟩) hK hP hP (va_recv hK hP (ci := 0) (q0 := 0) rfl rfl) hS rfl hl.1 rfl (Nat.le_of_ble_eq_true rfl) dX0_isClean_18 ⟨Nat.le_of_ble_eq_true rfl, Nat.le_of_ble_eq_true rfl⟩ (fun r H locs hr9 hP hS => ?_)
        subst hr9
        refine lv_if_ne (x := (bi (sClean F n k (F 7 k)))) (tgt := 26) hx hb dX0_isClean_21 (by decide) (fun c_21 => ?_) (fun c_21 => ?_)
        · have c_21 := bi_n0.mp c_21
          refine lv_iinc (v := (nI (k + 1))) (lv' := [(1, .int (nI (k + 1))), (0, .ref (q 9))]) hx hb dX0_isClean_26 hl (k := 0) rfl (nI_1 k) (by decide) rfl (fun ls hl => ?_)
          refine lv_goto (tgt := 2) hx hb dX0_isClean_29 (by decide) ?_
          exact ih2 (k + 1) _ _ _ (by omega) (by omega) (allB_t hA (by simpa using c_21)) hP hS (lv_sub hl [0, 1] rfl)
        · have c_21 := bi_e0.mp c_21
          refine lv_iconst (v := 0) hx hb dX0_isClean_24 (by decide) ?_
          exact W.zret hx hb hr zn0 (fun t ht hW => ⟨⟨_, (), rfl, (by show 0 = bi (allB (fun k => sClean F n k (F 7 k)) n); rw [allB_f (by simpa using c_21) n hk7]; rfl), trivial⟩, hS.F ht⟩) hS.2.2 dX0_isClean_25
  exact L2 _ 0 _ _ _ (Nat.lt_succ_self _) (Nat.zero_le _) rfl hP hS (lv_sub hl [0, 1] rfl)
set_option maxHeartbeats 4000000 in
set_option maxRecDepth 100000 in
theorem c_X0_canPut (l : Launch) (hfl : l.stackTraces = false) (D : va_G) (q : Nat → Nat) (F : Nat → Nat → Int32) (n : Nat) (R : Nat → Int32) (cI cZ : ClassId) (v : Int32) (p : Int32) (hw : WF F n) : vx_Met l yX0_canPut wsX0_canPut ({ frames := 8, cells := 2, slots := 12, locals := 156 }) (va_Pc [.ref (q 9), .int v, .int p] (tW D (wX q F (nI n) R cI cZ) (tIZ cI cZ))) (RO (fun r => r = bi (sClean F n (gi v) p) ∧ thCP n v p = 0)) (XB (fun E => (E = "java/lang/IndexOutOfBoundsException" ∧ thCP n v p = 1) ∨ (E = "java/lang/IllegalArgumentException" ∧ thCP n v p = 2))) 2 12 nA := by
  refine tx_of (own := RX0) (cc := cX0_canPut) (maxL := 3) (ret := (some .boolean)) (by decide) rfl rfl (Nat.le_of_ble_eq_true rfl) ?_
  intro p9 e9 s m9 a9 below meth c9 ls hx hb hr hml hlocks hown hts htab ht hP hK hl
  have hS : va_S nA s.heap s.heap [] := va_S.rf
  have hl : lv_has ls 3 [(0, .ref (q 9)), (1, .int v), (2, .int p)] := hl
  refine lv_aload_n hx hb dX0_canPut_0 rfl (lv_at hl 0 rfl) ?_
  refine lv_iload_n hx hb dX0_canPut_1 rfl (lv_at hl 1 rfl) ?_
  refine tx_V (As := [.int v]) (rest := []) ⟨hx, hb, hml, hown, hts⟩ (c_X0_checkGoods l hfl D q F n R cI cZ v hw.n) (cwV 1 hts gX0_canPut_X0_checkGoods rfl rfl rfl (by decide +kernel) ⟨Nat.le_of_ble_eq_true rfl, Nat.le_of_ble_eq_true rfl⟩) ht hK hP hP (va_recv hK hP (ci := 0) (q0 := 0) rfl rfl) hS rfl hl.1 rfl (Nat.le_of_ble_eq_true rfl) dX0_canPut_2 ⟨Nat.le_of_ble_eq_true rfl, Nat.le_of_ble_eq_true rfl⟩ (fun E ce q9 H locs hE hP hS hce hcv hcl => tx_out htab hlocks hS hce hcv hcl (Or.inl ⟨hE.1, thCP_1 hE.2⟩) (Nat.le_of_ble_eq_true rfl) (Nat.le_of_ble_eq_true rfl)) (fun H locs h_2 hP hS => ?_)
  obtain ⟨g, hg, rfl⟩ := (gd_iff hw.n).mp h_2
  have eg : gi (nI g) = g := gi_nI (by have := hw.n; omega)
  refine lv_iload_n hx hb dX0_canPut_5 rfl (lv_at hl 2 rfl) ?_
  refine tx_S (As := [.int p]) (rest := []) ⟨hx, hb, hml, hown, hts⟩ (c_X0_checkPlace l hfl p) (va_cwS 1 hts gX0_canPut_X0_checkPlace rfl rfl rfl (by decide +kernel) ⟨Nat.le_of_ble_eq_true rfl, Nat.le_of_ble_eq_true rfl⟩) ht hP hS rfl hl.1 rfl (Nat.le_of_ble_eq_true rfl) dX0_canPut_6 ⟨Nat.le_of_ble_eq_true rfl, Nat.le_of_ble_eq_true rfl⟩ (fun E ce q9 H locs hE hP hS hce hcv hcl => tx_out htab hlocks hS hce hcv hcl (Or.inr ⟨hE.1, thCP_2 h_2 hE.2⟩) (Nat.le_of_ble_eq_true rfl) (Nat.le_of_ble_eq_true rfl)) (fun H locs h_6 hP hS => ?_)
  refine lv_aload_n hx hb dX0_canPut_9 rfl (lv_at hl 0 rfl) ?_
  refine lv_iload_n hx hb dX0_canPut_10 rfl (lv_at hl 1 rfl) ?_
  refine lv_iload_n hx hb dX0_canPut_11 rfl (lv_at hl 2 rfl) ?_
  refine ro_V (As := [.int (nI g), .int p]) (rest := []) ⟨hx, hb, hml, hown, hts⟩ (c_X0_wouldBeClean l D q F n R cI cZ g p hw hg (pl_okP h_6)) (cwV 2 hts gX0_canPut_X0_wouldBeClean rfl rfl rfl (by decide +kernel) ⟨Nat.le_of_ble_eq_true rfl, Nat.le_of_ble_eq_true rfl⟩) hK hP hP (va_recv hK hP (ci := 0) (q0 := 0) rfl rfl) hS rfl hl.1 rfl (Nat.le_of_ble_eq_true rfl) dX0_canPut_12 ⟨Nat.le_of_ble_eq_true rfl, Nat.le_of_ble_eq_true rfl⟩ (fun r H locs hr9 hP hS => ?_)
  subst hr9
  refine W.widen (k := 2) (n := 12) (Nat.le_of_ble_eq_true rfl) (Nat.le_of_ble_eq_true rfl) ?_
  exact vx_ret (W.zret hx hb hr (bi_nar _) (fun t ht hW => ⟨⟨_, (), rfl, (by show (bi (sClean F n g p)) = bi (sClean F n (gi (nI g)) p) ∧ thCP n (nI g) p = 0; rw [eg]; exact ⟨rfl, thCP_0 h_2 h_6⟩), trivial⟩, hS.F ht⟩) hS.2.2 dX0_canPut_15)
set_option maxHeartbeats 4000000 in
set_option maxRecDepth 100000 in
theorem c_X0_placeFor (l : Launch) (hfl : l.stackTraces = false) (D : va_G) (q : Nat → Nat) (F : Nat → Nat → Int32) (n : Nat) (R : Nat → Int32) (cI cZ : ClassId) (v : Int32) (hw : WF F n) : vx_Met l yX0_placeFor wsX0_placeFor ({ frames := 7, cells := 1, slots := 6, locals := 156 }) (va_Pc [.ref (q 9), .int v] (tW D (wX q F (nI n) R cI cZ) (tIZ cI cZ))) (RO (fun r => isLow (fun k => sClean F n (gi v) (nI k)) r ∧ th1 n v = 0)) (XB (fun E => E = "java/lang/IndexOutOfBoundsException" ∧ th1 n v = 1)) 1 6 nA := by
  refine tx_of (own := RX0) (cc := cX0_placeFor) (maxL := 3) (ret := (some .int)) (by decide) rfl rfl (Nat.le_of_ble_eq_true rfl) ?_
  intro p9 e9 s m9 a9 below meth c9 ls hx hb hr hml hlocks hown hts htab ht hP hK hl
  have hS : va_S nA s.heap s.heap [] := va_S.rf
  have hl : lv_has ls 3 [(0, .ref (q 9)), (1, .int v)] := hl
  refine lv_aload_n hx hb dX0_placeFor_0 rfl (lv_at hl 0 rfl) ?_
  refine lv_iload_n hx hb dX0_placeFor_1 rfl (lv_at hl 1 rfl) ?_
  refine tx_V (As := [.int v]) (rest := []) ⟨hx, hb, hml, hown, hts⟩ (c_X0_checkGoods l hfl D q F n R cI cZ v hw.n) (cwV 1 hts gX0_placeFor_X0_checkGoods rfl rfl rfl (by decide +kernel) ⟨Nat.le_of_ble_eq_true rfl, Nat.le_of_ble_eq_true rfl⟩) ht hK hP hP (va_recv hK hP (ci := 0) (q0 := 0) rfl rfl) hS rfl hl.1 rfl (Nat.le_of_ble_eq_true rfl) dX0_placeFor_2 ⟨Nat.le_of_ble_eq_true rfl, Nat.le_of_ble_eq_true rfl⟩ (fun E ce q9 H locs hE hP hS hce hcv hcl => tx_out htab hlocks hS hce hcv hcl (⟨hE.1, th1_1 hE.2⟩) (Nat.le_of_ble_eq_true rfl) (Nat.le_of_ble_eq_true rfl)) (fun H locs h_2 hP hS => ?_)
  obtain ⟨g, hg, rfl⟩ := (gd_iff hw.n).mp h_2
  have eg : gi (nI g) = g := gi_nI (by have := hw.n; omega)
  refine lv_iconst (v := 0) hx hb dX0_placeFor_5 (by decide) ?_
  refine lv_istore_n (lv' := [(2, .int 0), (0, .ref (q 9)), (1, .int (nI g))]) hx hb dX0_placeFor_6 rfl hl (by decide) rfl (fun ls hl => ?_)
  have L7 : ∀ (d9 : Nat) (k : Nat) (H : Heap) (locs : List Loc) (ls : Array Slot), 48 - k < d9 → (k ≤ 48) → (∀ j, j < k → sClean F n g (nI j) = false) → va_P D vwCl (wX q F (nI n) R cI cZ) H → va_S nA s.heap H locs → lv_has ls 3 [(2, .int (nI k)), (0, .ref (q 9)), (1, .int (nI g))] → W p9 l e9 ({ frames := 7, cells := 1, slots := 6, locals := 156 }) s m9 a9 below meth c9 H locs 1 6 (vx_MQ below (RO (fun r => isLow (fun k => sClean F n (gi (nI g)) (nI k)) r ∧ th1 n (nI g) = 0)) (XB (fun E => E = "java/lang/IndexOutOfBoundsException" ∧ th1 n (nI g) = 1)) a9 s 1 6 nA) (F0 m9 7 ls []) := by
    intro d9
    induction d9 with
    | zero => intro k H locs ls h9; exact absurd h9 (Nat.not_lt_zero _)
    | succ d9 ih7 =>
      intro k H locs ls hd7 hk hA hP hS hl
      refine lv_iload_n hx hb dX0_placeFor_7 rfl (lv_at hl 0 rfl) ?_
      refine lv_bipush (v := 48) hx hb dX0_placeFor_8 (by decide) ?_
      refine lv_icmp_ge (x := (nI k)) (y := 48) (tgt := 30) hx hb dX0_placeFor_10 (by decide) (fun c_10 => ?_) (fun c_10 => ?_)
      · have hk10 : k = 48 := Nat.le_antisymm hk (nI_ge_of (n := 48) c_10 (by omega) (by decide))
        refine lv_iconst (v := (-1)) hx hb dX0_placeFor_30 (by decide) ?_
        refine W.widen (k := 1) (n := 6) (Nat.le_of_ble_eq_true rfl) (Nat.le_of_ble_eq_true rfl) ?_
        exact vx_ret (W.iret hx hb hr (fun t ht hW => ⟨⟨_, (), rfl, (by show isLow (fun k => sClean F n (gi (nI g)) (nI k)) (-1) ∧ th1 n (nI g) = 0; rw [eg]; exact ⟨Or.inl ⟨rfl, fun j hj => hA j (by omega)⟩, th1_0 h_2⟩), trivial⟩, hS.F ht⟩) hS.2.2 dX0_placeFor_31)
      · have hk10 : k < 48 := nI_lt_of (n := 48) c_10 (by omega)
        refine lv_aload_n hx hb dX0_placeFor_13 rfl (lv_at hl 1 rfl) ?_
        refine lv_iload_n hx hb dX0_placeFor_14 rfl (lv_at hl 2 rfl) ?_
        refine lv_iload_n hx hb dX0_placeFor_15 rfl (lv_at hl 0 rfl) ?_
        refine ro_V (As := [.int (nI g), .int (nI k)]) (rest := []) ⟨hx, hb, hml, hown, hts⟩ (c_X0_wouldBeClean l D q F n R cI cZ g (nI k) hw hg (Or.inr ⟨k, hk10, rfl⟩)) (cwV 2 hts gX0_placeFor_X0_wouldBeClean rfl rfl rfl (by decide +kernel) ⟨Nat.le_of_ble_eq_true rfl, Nat.le_of_ble_eq_true rfl⟩) hK hP hP (va_recv hK hP (ci := 0) (q0 := 0) rfl rfl) hS rfl hl.1 rfl (Nat.le_of_ble_eq_true rfl) dX0_placeFor_16 ⟨Nat.le_of_ble_eq_true rfl, Nat.le_of_ble_eq_true rfl⟩ (fun r H locs hr9 hP hS => ?_)
        subst hr9
        refine lv_if_eq (x := (bi (sClean F n g (nI k)))) (tgt := 24) hx hb dX0_placeFor_19 (by decide) (fun c_19 => ?_) (fun c_19 => ?_)
        · have c_19 := bi_e0.mp c_19
          refine lv_iinc (v := (nI (k + 1))) (lv' := [(2, .int (nI (k + 1))), (0, .ref (q 9)), (1, .int (nI g))]) hx hb dX0_placeFor_24 hl (k := 0) rfl (nI_1 k) (by decide) rfl (fun ls hl => ?_)
          refine lv_goto (tgt := 7) hx hb dX0_placeFor_27 (by decide) ?_
          exact ih7 (k + 1) _ _ _ (by omega) (by omega) (lt_s hA c_19) hP hS (lv_sub hl [0, 1, 2] rfl)
        · have c_19 := bi_n0.mp c_19
          refine lv_iload_n hx hb dX0_placeFor_22 rfl (lv_at hl 0 rfl) ?_
          refine W.widen (k := 1) (n := 6) (Nat.le_of_ble_eq_true rfl) (Nat.le_of_ble_eq_true rfl) ?_
          exact vx_ret (W.iret hx hb hr (fun t ht hW => ⟨⟨_, (), rfl, (by show isLow (fun k => sClean F n (gi (nI g)) (nI k)) (nI k) ∧ th1 n (nI g) = 0; rw [eg]; exact ⟨Or.inr ⟨k, hk10, rfl, c_19, hA⟩, th1_0 h_2⟩), trivial⟩, hS.F ht⟩) hS.2.2 dX0_placeFor_23)
  exact L7 _ 0 _ _ _ (Nat.lt_succ_self _) (Nat.zero_le _) (fun j hj => absurd hj (Nat.not_lt_zero _)) hP hS (lv_sub hl [0, 1, 2] rfl)
set_option maxHeartbeats 4000000 in
set_option maxRecDepth 100000 in
theorem c_X0_breaches (l : Launch) (D : va_G) (q : Nat → Nat) (F : Nat → Nat → Int32) (n : Nat) (R : Nat → Int32) (cI cZ : ClassId) (hw : WF F n) : Met l yX0_breaches wsX0_breaches ({ frames := 4, cells := 0, slots := 0, locals := 110 }) (va_Pc [.ref (q 9)] (rW D (wX q F (nI n) R cI cZ) (tIZ cI cZ))) (RO (fun r => r = nI (cO F n n))) 0 0 nA := by
  refine ro_of (own := RX0) (cc := cX0_breaches) (maxL := 4) (ret := (some .int)) (by decide) rfl rfl (Nat.le_of_ble_eq_true rfl) ?_
  intro p9 e9 s m9 a9 below meth c9 ls hx hb hr hml hlocks hown hts hP hK hl
  have hin : ∀ w ∈ wsX00, w ∈ wsX0_breaches := by decide +kernel
  have f32 := hts (.fieldLink RX0 32 "DangerousGoods" "places" "[I") (by decide +kernel)
  have f35 := hts (.fieldLink RX0 35 "DangerousGoods" "count" "I") (by decide +kernel)
  have hS : va_S nA s.heap s.heap [] := va_S.rf
  have hl : lv_has ls 4 [(0, .ref (q 9))] := hl
  refine lv_iconst (v := 0) hx hb dX0_breaches_0 (by decide) ?_
  refine lv_istore_n (lv' := [(1, .int 0), (0, .ref (q 9))]) hx hb dX0_breaches_1 rfl hl (by decide) rfl (fun ls hl => ?_)
  refine lv_iconst (v := 0) hx hb dX0_breaches_2 (by decide) ?_
  refine lv_istore_n (lv' := [(2, .int 0), (1, .int 0), (0, .ref (q 9))]) hx hb dX0_breaches_3 rfl hl (by decide) rfl (fun ls hl => ?_)
  have L4 : ∀ (d9 : Nat) (k : Nat) (H : Heap) (locs : List Loc) (ls : Array Slot), n - k < d9 → (k ≤ n) → va_P D vwCl (wX q F (nI n) R cI cZ) H → va_S nA s.heap H locs → lv_has ls 4 [(2, .int (nI k)), (1, .int (nI (cO F n k))), (0, .ref (q 9))] → W p9 l e9 ({ frames := 4, cells := 0, slots := 0, locals := 110 }) s m9 a9 below meth c9 H locs 0 0 (MQ below (RO (fun r => r = nI (cO F n n))) a9 s 0 0 nA) (F0 m9 4 ls []) := by
    intro d9
    induction d9 with
    | zero => intro k H locs ls h9; exact absurd h9 (Nat.not_lt_zero _)
    | succ d9 ih4 =>
      intro k H locs ls hd4 hk hP hS hl
      refine lv_iload_n hx hb dX0_breaches_4 rfl (lv_at hl 0 rfl) ?_
      refine lv_aload_n hx hb dX0_breaches_5 rfl (lv_at hl 2 rfl) ?_
      refine va_get (D := D) (ci := 0) (v := .int (nI n)) hx hb hts hin hown hK hP 0 rfl rfl 8 (by decide) f35 (fun _ h9 => h9) rfl dX0_breaches_6 ?_
      refine lv_icmp_ge (x := (nI k)) (y := (nI n)) (tgt := 54) hx hb dX0_breaches_9 (by decide) (fun c_9 => ?_) (fun c_9 => ?_)
      · have hk9 : k = n := Nat.le_antisymm hk (nI_ge_of c_9 (by have := hw.n; omega) (by have := hw.n; omega))
        refine lv_iload_n hx hb dX0_breaches_54 rfl (lv_at hl 1 rfl) ?_
        exact W.iret hx hb hr (fun t ht hW => ⟨⟨_, (), rfl, (by show (nI (cO F n k)) = nI (cO F n n); rw [← hk9]), trivial⟩, hS.F ht⟩) hS.2.2 dX0_breaches_55
      · have hk9 : k < n := nI_lt_of c_9 (by have := hw.n; omega)
        refine lv_iload_n hx hb dX0_breaches_12 rfl (lv_at hl 0 rfl) ?_
        refine lv_iconst (v := 1) hx hb dX0_breaches_13 (by decide) ?_
        refine lv_iadd hx hb (x := (nI k)) (y := 1) dX0_breaches_14 ?_
        refine lv_istore_n (lv' := [(3, .int ((nI k) + 1)), (2, .int (nI k)), (1, .int (nI (cO F n k))), (0, .ref (q 9))]) hx hb dX0_breaches_15 rfl hl (by decide) rfl (fun ls hl => ?_)
        have L16 : ∀ (d9 : Nat) (j : Nat) (H : Heap) (locs : List Loc) (ls : Array Slot), n - j < d9 → (j ≤ n) → (k + 1 ≤ j) → va_P D vwCl (wX q F (nI n) R cI cZ) H → va_S nA s.heap H locs → lv_has ls 4 [(3, .int (nI j)), (1, .int (nI (cO F n k + cIn (fun j => sBreach F k (F 7 k) j) (k + 1) j))), (0, .ref (q 9)), (2, .int (nI k))] → W p9 l e9 ({ frames := 4, cells := 0, slots := 0, locals := 110 }) s m9 a9 below meth c9 H locs 0 0 (MQ below (RO (fun r => r = nI (cO F n n))) a9 s 0 0 nA) (F0 m9 16 ls []) := by
          intro d9
          induction d9 with
          | zero => intro j H locs ls h9; exact absurd h9 (Nat.not_lt_zero _)
          | succ d9 ih16 =>
            intro j H locs ls hd16 hj hjk hP hS hl
            refine lv_iload_n hx hb dX0_breaches_16 rfl (lv_at hl 0 rfl) ?_
            refine lv_aload_n hx hb dX0_breaches_17 rfl (lv_at hl 2 rfl) ?_
            refine va_get (D := D) (ci := 0) (v := .int (nI n)) hx hb hts hin hown hK hP 0 rfl rfl 8 (by decide) f35 (fun _ h9 => h9) rfl dX0_breaches_18 ?_
            refine lv_icmp_ge (x := (nI j)) (y := (nI n)) (tgt := 48) hx hb dX0_breaches_21 (by decide) (fun c_21 => ?_) (fun c_21 => ?_)
            · have hk21 : j = n := Nat.le_antisymm hj (nI_ge_of c_21 (by have := hw.n; omega) (by have := hw.n; omega))
              refine lv_iinc (v := (nI (k + 1))) (lv' := [(2, .int (nI (k + 1))), (3, .int (nI j)), (1, .int (nI (cO F n k + cIn (fun j => sBreach F k (F 7 k) j) (k + 1) j))), (0, .ref (q 9))]) hx hb dX0_breaches_48 hl (k := 3) rfl (nI_1 k) (by decide) rfl (fun ls hl => ?_)
              refine lv_goto (tgt := 4) hx hb dX0_breaches_51 (by decide) ?_
              have e1 : (nI (cO F n k + cIn (fun j => sBreach F k (F 7 k) j) (k + 1) j)) = nI (cO F n (k + 1)) := by rw [show cO F n (k + 1) = cO F n k + cIn (fun j => sBreach F k (F 7 k) j) (k + 1) n from rfl, hk21]
              rw [e1] at hl
              exact ih4 (k + 1) _ _ _ (by omega) (by omega) hP hS (lv_sub hl [0, 2, 3] rfl)
            · have hk21 : j < n := nI_lt_of c_21 (by have := hw.n; omega)
              refine lv_aload_n hx hb dX0_breaches_24 rfl (lv_at hl 2 rfl) ?_
              refine lv_iload_n hx hb dX0_breaches_25 rfl (lv_at hl 3 rfl) ?_
              refine lv_aload_n hx hb dX0_breaches_26 rfl (lv_at hl 2 rfl) ?_
              refine va_get (D := D) (ci := 0) (v := .ref (q 7)) hx hb hts hin hown hK hP 0 rfl rfl 7 (by decide) f32 (fun _ h9 => h9) rfl dX0_breaches_27 ?_
              refine lv_iload_n hx hb dX0_breaches_30 rfl (lv_at hl 3 rfl) ?_
              refine xiald hx hb hK hP 8 0 rfl rfl (g := k) (hw.g hk9) (by decide) dX0_breaches_31 ?_
              refine lv_iload_n hx hb dX0_breaches_32 rfl (lv_at hl 0 rfl) ?_
              refine ro_V (As := [.int (nI k), .int (F 7 k), .int (nI j)]) (rest := []) ⟨hx, hb, hml, hown, hts⟩ (c_X0_wouldBreach l D q F n R cI cZ k (F 7 k) j hw hk9 hk21) (cwV 3 hts gX0_breaches_X0_wouldBreach rfl rfl rfl (by decide +kernel) ⟨Nat.le_of_ble_eq_true rfl, Nat.le_of_ble_eq_true rfl⟩) hK hP hP (va_recv hK hP (ci := 0) (q0 := 0) rfl rfl) hS rfl hl.1 rfl (Nat.le_of_ble_eq_true rfl) dX0_breaches_33 ⟨Nat.le_of_ble_eq_true rfl, Nat.le_of_ble_eq_true rfl⟩ (fun r H locs hr9 hP hS => ?_)
              subst hr9
              refine lv_if_eq (x := (bi (sBreach F k (F 7 k) j))) (tgt := 42) hx hb dX0_breaches_36 (by decide) (fun c_36 => ?_) (fun c_36 => ?_)
              · have c_36 := bi_e0.mp c_36
                refine lv_iinc (v := (nI (j + 1))) (lv' := [(3, .int (nI (j + 1))), (1, .int (nI (cO F n k + cIn (fun j => sBreach F k (F 7 k) j) (k + 1) j))), (0, .ref (q 9)), (2, .int (nI k))]) hx hb dX0_breaches_42 hl (k := 0) rfl (nI_1 j) (by decide) rfl (fun ls hl => ?_)
                refine lv_goto (tgt := 16) hx hb dX0_breaches_45 (by decide) ?_
                have e1 : (nI (cO F n k + cIn (fun j => sBreach F k (F 7 k) j) (k + 1) j)) = nI (cO F n k + cIn (fun j => sBreach F k (F 7 k) j) (k + 1) (j + 1)) := by rw [cIn_f (by simpa using c_36)]
                rw [e1] at hl
                exact ih16 (j + 1) _ _ _ (by omega) (by omega) (by omega) hP hS (lv_sub hl [0, 1, 2, 3] rfl)
              · have c_36 := bi_n0.mp c_36
                refine lv_iinc (v := (nI (cO F n k + cIn (fun j => sBreach F k (F 7 k) j) (k + 1) j) + 1)) (lv' := [(1, .int (nI (cO F n k + cIn (fun j => sBreach F k (F 7 k) j) (k + 1) j) + 1)), (3, .int (nI j)), (0, .ref (q 9)), (2, .int (nI k))]) hx hb dX0_breaches_39 hl (k := 1) rfl (rfl) (by decide) rfl (fun ls hl => ?_)
                refine lv_iinc (v := (nI (j + 1))) (lv' := [(3, .int (nI (j + 1))), (1, .int (nI (cO F n k + cIn (fun j => sBreach F k (F 7 k) j) (k + 1) j) + 1)), (0, .ref (q 9)), (2, .int (nI k))]) hx hb dX0_breaches_42 hl (k := 1) rfl (nI_1 j) (by decide) rfl (fun ls hl => ?_)
                refine lv_goto (tgt := 16) hx hb dX0_breaches_45 (by decide) ?_
                have e1 : (nI (cO F n k + cIn (fun j => sBreach F k (F 7 k) j) (k + 1) j) + 1) = nI (cO F n k + cIn (fun j => sBreach F k (F 7 k) j) (k + 1) (j + 1)) := by rw [cIn_t hjk (by simpa using c_36), ← Nat.add_assoc]; exact nI_1 _
                rw [e1] at hl
                exact ih16 (j + 1) _ _ _ (by omega) (by omega) (by omega) hP hS (lv_sub hl [0, 1, 2, 3] rfl)
        have e1 : nI (cO F n k) = nI (cO F n k + cIn (fun j => sBreach F k (F 7 k) j) (k + 1) (k + 1)) := by rw [cIn_z _ _ _ (Nat.le_refl _)]; rfl
        rw [e1] at hl
        have e3 : nI k + 1 = nI (k + 1) := nI_1 k
        rw [e3] at hl
        exact L16 _ (k + 1) _ _ _ (Nat.lt_succ_self _) (by omega) (Nat.le_refl _) hP hS (lv_sub hl [0, 2, 3, 1] rfl)
  exact L4 _ 0 _ _ _ (Nat.lt_succ_self _) (Nat.zero_le _) hP hS (lv_sub hl [0, 1, 2] rfl)

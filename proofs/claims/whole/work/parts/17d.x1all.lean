/-! the reference: loops, calls that write -/
set_option maxHeartbeats 4000000 in
set_option maxRecDepth 100000 in
theorem c_X1_count (l : Launch) (x : Nat) (h16 : x < 65536) : Met l yX1_count wsX1_count ({ frames := 0, cells := 0, slots := 0, locals := 0 }) (va_Pc [.int (nI x)] (fun _ => True)) (RO (fun r => r = nI (pcn x))) 0 0 nA := by
  refine ro_ofS (own := RX1) (cc := cX1_count) (maxL := 3) (ret := (some .int)) (by decide) rfl rfl (Nat.le_of_ble_eq_true rfl) ?_
  intro p9 e9 s m9 a9 below meth c9 ls hx hb hr hml hlocks hown hts hP hl
  have hS : va_S nA s.heap s.heap [] := va_S.rf
  have hl : lv_has ls 3 [(0, .int (nI x))] := hl
  refine lv_iconst (v := 0) hx hb dX1_count_0 (by decide) ?_
  refine lv_istore_n (lv' := [(1, .int 0), (0, .int (nI x))]) hx hb dX1_count_1 rfl hl (by decide) rfl (fun ls hl => ?_)
  refine lv_iload_n hx hb dX1_count_2 rfl (lv_at hl 1 rfl) ?_
  refine lv_istore_n (lv' := [(2, .int (nI x)), (1, .int 0), (0, .int (nI x))]) hx hb dX1_count_3 rfl hl (by decide) rfl (fun ls hl => ?_)
  have L4 : ∀ (d9 : Nat) (f : Nat) (a : Nat) (y : Nat) (H : Heap) (locs : List Loc) (ls : Array Slot), f < d9 → (y < 2 ^ f) → (a + pcF f y = pcn x) → (f ≤ 16) → va_P (fun _ => 0, fun _ _ => 0) vwCl [] H → va_S nA s.heap H locs → lv_has ls 3 [(2, .int (nI y)), (1, .int (nI a))] → W p9 l e9 ({ frames := 0, cells := 0, slots := 0, locals := 0 }) s m9 a9 below meth c9 H locs 0 0 (MQ below (RO (fun r => r = nI (pcn x))) a9 s 0 0 nA) (F0 m9 4 ls []) := by
    intro d9
    induction d9 with
    | zero => intro f a y H locs ls h9; exact absurd h9 (Nat.not_lt_zero _)
    | succ d9 ih4 =>
      intro f a y H locs ls hd4 hy ha hf hP hS hl
      refine lv_iload_n hx hb dX1_count_4 rfl (lv_at hl 0 rfl) ?_
      refine lv_if_le (x := (nI y)) (tgt := 21) hx hb dX1_count_5 (by decide) (fun c_5 => ?_) (fun c_5 => ?_)
      · have hy0 : y = 0 := by
          rcases Nat.eq_zero_or_pos y with q9 | q9
          · exact q9
          · exact absurd c_5 (nI_nle q9 (by have : 2 ^ f ≤ 2 ^ 16 := Nat.pow_le_pow_right (by decide) hf; omega))
        have e9 : a = pcn x := by rw [← ha, hy0, pcF_0]; rfl
        refine lv_iload_n hx hb dX1_count_21 rfl (lv_at hl 1 rfl) ?_
        exact W.iret hx hb hr (fun t ht hW => ⟨⟨_, (), rfl, (by show (nI a) = nI (pcn x); rw [e9]), trivial⟩, hS.F ht⟩) hS.2.2 dX1_count_22
      · have hyl : y < 2 ^ 31 := by have : 2 ^ f ≤ 2 ^ 16 := Nat.pow_le_pow_right (by decide) hf; omega
        have hy1 : ¬ y = 0 := fun e => c_5 (by rw [e]; decide)
        obtain ⟨f9, rfl⟩ : ∃ z, f = z + 1 := ⟨f - 1, by have : ¬ f = 0 := fun e => (by subst e; omega); omega⟩
        have hy2 : y < 2 * 2 ^ f9 := by rw [← Nat.pow_succ']; exact hy
        refine lv_iload_n hx hb dX1_count_8 rfl (lv_at hl 1 rfl) ?_
        refine lv_iload_n hx hb dX1_count_9 rfl (lv_at hl 0 rfl) ?_
        refine lv_iconst (v := 2) hx hb dX1_count_10 (by decide) ?_
        refine lv_irem hx hb (x := (nI y)) (y := 2) dX1_count_11 (by decide) ?_
        refine W.eq (g2 := F0 m9 12 ls (.int (nI (y % 2)) :: [.int (nI a)])) (congrArg (fun z => F0 m9 12 ls (Value.int z :: [.int (nI a)])) (rem_2 hyl)) ?_
        refine lv_iadd hx hb (x := (nI a)) (y := (nI (y % 2))) dX1_count_12 ?_
        refine W.eq (g2 := F0 m9 13 ls (.int (nI (a + y % 2)) :: [])) (congrArg (fun z => F0 m9 13 ls (Value.int z :: [])) (nI_add _ _)) ?_
        refine lv_istore_n (lv' := [(1, .int (nI (a + y % 2))), (2, .int (nI y))]) hx hb dX1_count_13 rfl hl (by decide) rfl (fun ls hl => ?_)
        refine lv_iload_n hx hb dX1_count_14 rfl (lv_at hl 1 rfl) ?_
        refine lv_iconst (v := 2) hx hb dX1_count_15 (by decide) ?_
        refine lv_idiv hx hb (x := (nI y)) (y := 2) dX1_count_16 (by decide) ?_
        refine W.eq (g2 := F0 m9 17 ls (.int (nI (y / 2)) :: [])) (congrArg (fun z => F0 m9 17 ls (Value.int z :: [])) (div_2 hyl)) ?_
        refine lv_istore_n (lv' := [(2, .int (nI (y / 2))), (1, .int (nI (a + y % 2)))]) hx hb dX1_count_17 rfl hl (by decide) rfl (fun ls hl => ?_)
        refine lv_goto (tgt := 4) hx hb dX1_count_18 (by decide) ?_
        exact ih4 f9 (a + y % 2) (y / 2) _ _ _ (by omega) (by omega) (by rw [← ha, Nat.add_assoc]; rfl) (by omega) hP hS (lv_sub hl [0, 1] rfl)
  exact L4 _ 16 0 x _ _ _ (Nat.lt_succ_self _) (show x < 2 ^ 16 from h16) (Nat.zero_add _) (Nat.le_refl _) hP hS (lv_sub hl [0, 1] rfl)
set_option maxHeartbeats 4000000 in
set_option maxRecDepth 100000 in
theorem c_X1_least (l : Launch) (D : va_G) (q : Nat → Nat) (F : Nat → Nat → Int32) (n : Nat) (R : Nat → Int32) (th : Int32) (cI cZ : ClassId) (sz : Nat) (hw : WF F n) : Met l yX1_least wsX1_least ({ frames := 7, cells := 0, slots := 0, locals := 157 }) (va_Pc [.ref (q 9)] (wS D (wM q F (nI n) R th cI cZ) (tIZ cI cZ) sz)) (va_Qi (fun (r : Int32) (u : Nat → Int32) => r = nI (mLeast F n)) (wB D (va_A (wM q F (nI n) R th cI cZ) sz) (fun (u : Nat → Int32) => wM q F (nI n) u th cI cZ)) (va_A (wM q F (nI n) R th cI cZ) sz)) 0 0 (va_A (wM q F (nI n) R th cI cZ) sz) := by
  refine wr_of (own := RX1) (cc := cX1_least) (maxL := 6) (ret := (some .int)) (by decide) rfl rfl (Nat.le_of_ble_eq_true rfl) ?_
  intro p9 e9 s m9 a9 below meth c9 ls A hx hb hr hml hlocks hown hts hP hK hD hA hl
  have hin : ∀ w ∈ wsX10, w ∈ wsX1_least := by decide +kernel
  have f32 := hts (.fieldLink RX1 32 "DangerousGoodsModel" "places" "[I") (by decide +kernel)
  have f46 := hts (.fieldLink RX1 46 "DangerousGoodsModel" "goods" "I") (by decide +kernel)
  have hS : va_S A s.heap s.heap [] := va_S.rf
  have hl : lv_has ls 6 [(0, .ref (q 9))] := hl
  refine lv_aload_n hx hb dX1_least_0 rfl (lv_at hl 0 rfl) ?_
  refine wr_Vv (As := []) (rest := []) (wr := []) ⟨hx, hb, hml, hown, hts⟩ (c_X1_laysFoes l D q F n R th cI cZ _ hw) (cwV 0 hts gX1_least_X1_laysFoes rfl rfl rfl (by decide +kernel) ⟨Nat.le_of_ble_eq_true rfl, Nat.le_of_ble_eq_true rfl⟩) hK hP hD hA [0, 1, 2, 3, 4, 5, 6, 7, 8, 9] [] rfl rfl (by decide) rfl (by decide) (by decide) (va_recv hK hP (ci := 1) (q0 := 0) rfl rfl) hS rfl hl.1 rfl (Nat.le_of_ble_eq_true rfl) dX1_least_1 ⟨Nat.le_of_ble_eq_true rfl, Nat.le_of_ble_eq_true rfl⟩ (fun u9 H locs h_1 hP hD hS => ?_)
  have hP : va_P D vwCl (wM q F (nI n) u9 th cI cZ) H := hP
  have hD : va_D A (wM q F (nI n) u9 th cI cZ) := hD
  refine lv_aload_n hx hb dX1_least_4 rfl (lv_at hl 0 rfl) ?_
  refine ro_V (As := []) (rest := []) ⟨hx, hb, hml, hown, hts⟩ (c_X1_wrongs l D q F n u9 th cI cZ hw) (cwV 0 hts gX1_least_X1_wrongs rfl rfl rfl (by decide +kernel) ⟨Nat.le_of_ble_eq_true rfl, Nat.le_of_ble_eq_true rfl⟩) hK hP hP (va_recv hK hP (ci := 1) (q0 := 0) rfl rfl) hS rfl hl.1 rfl (Nat.le_of_ble_eq_true rfl) dX1_least_5 ⟨Nat.le_of_ble_eq_true rfl, Nat.le_of_ble_eq_true rfl⟩ (fun r H locs hr9 hP hS => ?_)
  subst hr9
  refine lv_istore_n (lv' := [(1, .int (nI (mWrongs F n))), (0, .ref (q 9))]) hx hb dX1_least_8 rfl hl (by decide) rfl (fun ls hl => ?_)
  refine lv_iconst (v := 0) hx hb dX1_least_9 (by decide) ?_
  refine lv_istore_n (lv' := [(2, .int 0), (1, .int (nI (mWrongs F n))), (0, .ref (q 9))]) hx hb dX1_least_10 rfl hl (by decide) rfl (fun ls hl => ?_)
  refine lv_iconst (v := 0) hx hb dX1_least_11 (by decide) ?_
  refine lv_istore_n (lv' := [(3, .int 0), (2, .int 0), (1, .int (nI (mWrongs F n))), (0, .ref (q 9))]) hx hb dX1_least_12 rfl hl (by decide) rfl (fun ls hl => ?_)
  have L13 : ∀ (d9 : Nat) (k : Nat) (H : Heap) (locs : List Loc) (ls : Array Slot), n - k < d9 → (k ≤ n) → va_P D vwCl (wM q F (nI n) u9 th cI cZ) H → va_D A (wM q F (nI n) u9 th cI cZ) → va_S A s.heap H locs → lv_has ls 6 [(3, .int (nI k)), (2, .int (nI (bs (fun k => if F 7 k = -1 then false else true) k))), (0, .ref (q 9)), (1, .int (nI (mWrongs F n)))] → W p9 l e9 ({ frames := 7, cells := 0, slots := 0, locals := 157 }) s m9 a9 below meth c9 H locs 0 0 (MQ below (va_Qi (fun (r : Int32) (u : Nat → Int32) => r = nI (mLeast F n)) (wB D A (fun (u : Nat → Int32) => wM q F (nI n) u th cI cZ)) A) a9 s 0 0 A) (F0 m9 13 ls []) := by
    intro d9
    induction d9 with
    | zero => intro k H locs ls h9; exact absurd h9 (Nat.not_lt_zero _)
    | succ d9 ih13 =>
      intro k H locs ls hd13 hk hP hD hS hl
      refine lv_iload_n hx hb dX1_least_13 rfl (lv_at hl 0 rfl) ?_
      refine lv_aload_n hx hb dX1_least_14 rfl (lv_at hl 2 rfl) ?_
      refine va_get (D := D) (ci := 1) (v := .int (nI n)) hx hb hts hin hown hK hP 0 rfl rfl 4 (by decide) f46 (fun _ h9 => h9) rfl dX1_least_15 ?_
      refine lv_icmp_ge (x := (nI k)) (y := (nI n)) (tgt := 47) hx hb dX1_least_18 (by decide) (fun c_18 => ?_) (fun c_18 => ?_)
      · have hk18 : k = n := Nat.le_antisymm hk (nI_ge_of c_18 (by have := hw.n; omega) (by have := hw.n; omega))
        have hab : mAb F n < 65536 := bs_16 hw.n
        rw [hk18] at hl
        have hl : lv_has ls 6 [(3, .int (nI n)), (2, .int (nI (mAb F n))), (0, .ref (q 9)), (1, .int (nI (mWrongs F n)))] := hl
        refine lv_iload_n hx hb dX1_least_47 rfl (lv_at hl 1 rfl) ?_
        refine lv_istore_n (lv' := [(3, .int (nI (mAb F n))), (2, .int (nI (mAb F n))), (0, .ref (q 9)), (1, .int (nI (mWrongs F n)))]) hx hb dX1_least_48 rfl hl (by decide) rfl (fun ls hl => ?_)
        refine lv_iload_n hx hb dX1_least_49 rfl (lv_at hl 1 rfl) ?_
        refine ro_S (As := [.int (nI (mAb F n))]) (rest := []) ⟨hx, hb, hml, hown, hts⟩ (c_X1_count l (mAb F n) hab) (va_cwS 1 hts gX1_least_X1_count rfl rfl rfl (by decide +kernel) ⟨Nat.le_of_ble_eq_true rfl, Nat.le_of_ble_eq_true rfl⟩) hP hS rfl hl.1 rfl (Nat.le_of_ble_eq_true rfl) dX1_least_50 ⟨Nat.le_of_ble_eq_true rfl, Nat.le_of_ble_eq_true rfl⟩ (fun r H locs hr9 hP hS => ?_)
        subst hr9
        refine lv_istore (lv' := [(4, .int (nI (pcn (mAb F n)))), (3, .int (nI (mAb F n))), (2, .int (nI (mAb F n))), (0, .ref (q 9)), (1, .int (nI (mWrongs F n)))]) hx hb dX1_least_53 hl (by decide) rfl (fun ls hl => ?_)
        refine lv_iload_n hx hb dX1_least_55 rfl (lv_at hl 2 rfl) ?_
        refine lv_istore (lv' := [(5, .int (nI (mAb F n))), (4, .int (nI (pcn (mAb F n)))), (3, .int (nI (mAb F n))), (2, .int (nI (mAb F n))), (0, .ref (q 9)), (1, .int (nI (mWrongs F n)))]) hx hb dX1_least_56 hl (by decide) rfl (fun ls hl => ?_)
        have L58 : ∀ (d9 : Nat) (f : Nat) (set : Nat) (found : Nat) (H : Heap) (locs : List Loc) (ls : Array Slot), f < d9 → (set < f) → (set < 65536) → (found < 65536) → (mL (mOk F n) (mAb F n) f set found = mL (mOk F n) (mAb F n) 65537 (mAb F n) (mAb F n)) → va_P D vwCl (wM q F (nI n) u9 th cI cZ) H → va_D A (wM q F (nI n) u9 th cI cZ) → va_S A s.heap H locs → lv_has ls 6 [(5, .int (nI set)), (3, .int (nI found)), (4, .int (nI (pcn found))), (0, .ref (q 9)), (1, .int (nI (mWrongs F n))), (2, .int (nI (mAb F n)))] → W p9 l e9 ({ frames := 7, cells := 0, slots := 0, locals := 157 }) s m9 a9 below meth c9 H locs 0 0 (MQ below (va_Qi (fun (r : Int32) (u : Nat → Int32) => r = nI (mLeast F n)) (wB D A (fun (u : Nat → Int32) => wM q F (nI n) u th cI cZ)) A) a9 s 0 0 A) (F0 m9 58 ls []) := by
          intro d9
          induction d9 with
          | zero => intro f set found H locs ls h9; exact absurd h9 (Nat.not_lt_zero _)
          | succ d9 ih58 =>
            intro f set found H locs ls hd58 hsf hs1 h_found hm hP hD hS hl
            refine lv_iload hx hb dX1_least_58 (lv_at hl 0 rfl) ?_
            refine lv_if_le (x := (nI set)) (tgt := 104) hx hb dX1_least_60 (by decide) (fun c_60 => ?_) (fun c_60 => ?_)
            · have hs0 : set = 0 := by
                rcases Nat.eq_zero_or_pos set with q9 | q9
                · exact q9
                · exact absurd c_60 (nI_nle q9 (by omega))
              have hm2 : found = mL (mOk F n) (mAb F n) 65537 (mAb F n) (mAb F n) := by
                rw [← hm]
                cases f with
                | zero => rfl
                | succ f9 => simp [mL, hs0]
              refine lv_aload_n hx hb dX1_least_104 rfl (lv_at hl 3 rfl) ?_
              refine lv_iconst (v := 0) hx hb dX1_least_105 (by decide) ?_
              refine W.eq (g2 := F0 m9 106 ls (.int (nI 0) :: [.ref (q 9)])) (congrArg (fun z => F0 m9 106 ls (Value.int z :: [.ref (q 9)])) (show (0 : Int32) = nI 0 from rfl)) ?_
              refine lv_iload_n hx hb dX1_least_106 rfl (lv_at hl 4 rfl) ?_
              refine ro_V (As := [.int (nI 0), .int (nI (mWrongs F n))]) (rest := []) ⟨hx, hb, hml, hown, hts⟩ (c_X1_isCleanWithout l D q F n u9 th cI cZ 0 (mWrongs F n) (fun j => mFoes F n j) (fun j hj => ⟨h_1 j hj, bs_16 hw.n⟩) hw.n (by decide) (bs_16 hw.n)) (cwV 2 hts gX1_least_X1_isCleanWithout rfl rfl rfl (by decide +kernel) ⟨Nat.le_of_ble_eq_true rfl, Nat.le_of_ble_eq_true rfl⟩) hK hP hP (va_recv hK hP (ci := 1) (q0 := 0) rfl rfl) hS rfl hl.1 rfl (Nat.le_of_ble_eq_true rfl) dX1_least_107 ⟨Nat.le_of_ble_eq_true rfl, Nat.le_of_ble_eq_true rfl⟩ (fun r H locs hr9 hP hS => ?_)
              subst hr9
              refine lv_if_eq (x := (bi (cwK (fun j => mFoes F n j) 0 (mWrongs F n) n))) (tgt := 117) hx hb dX1_least_110 (by decide) (fun c_110 => ?_) (fun c_110 => ?_)
              · have c_110 := bi_e0.mp c_110
                have c_110 : mOk F n 0 = false := c_110
                refine lv_iload_n hx hb dX1_least_117 rfl (lv_at hl 1 rfl) ?_
                exact W.iret hx hb hr (fun t ht hW => ⟨⟨_, u9, rfl, (by show (nI found) = nI (mLeast F n); first | (simp [mLeast, c_110]; done) | (rw [hm2]; simp [mLeast, c_110]; done) | (show 0 = nI (mLeast F n); simp [mLeast, c_110]; rfl)), by rw [ht]; exact hP, hD⟩, hS.F ht⟩) hS.2.2 dX1_least_118
              · have c_110 := bi_n0.mp c_110
                have c_110 : mOk F n 0 = true := c_110
                refine lv_iconst (v := 0) hx hb dX1_least_113 (by decide) ?_
                refine lv_goto (tgt := 118) hx hb dX1_least_114 (by decide) ?_
                exact W.iret hx hb hr (fun t ht hW => ⟨⟨_, u9, rfl, (by show 0 = nI (mLeast F n); first | (simp [mLeast, c_110]; done) | (rw [hm2]; simp [mLeast, c_110]; done) | (show 0 = nI (mLeast F n); simp [mLeast, c_110]; rfl)), by rw [ht]; exact hP, hD⟩, hS.F ht⟩) hS.2.2 dX1_least_118
            · have hs0 : ¬ set = 0 := fun e => c_60 (by rw [e]; decide)
              obtain ⟨f9, rfl⟩ : ∃ z, f = z + 1 := ⟨f - 1, by omega⟩
              refine lv_aload_n hx hb dX1_least_63 rfl (lv_at hl 3 rfl) ?_
              refine lv_iload hx hb dX1_least_64 (lv_at hl 0 rfl) ?_
              refine lv_iload_n hx hb dX1_least_66 rfl (lv_at hl 4 rfl) ?_
              refine ro_V (As := [.int (nI set), .int (nI (mWrongs F n))]) (rest := []) ⟨hx, hb, hml, hown, hts⟩ (c_X1_isCleanWithout l D q F n u9 th cI cZ set (mWrongs F n) (fun j => mFoes F n j) (fun j hj => ⟨h_1 j hj, bs_16 hw.n⟩) hw.n hs1 (bs_16 hw.n)) (cwV 2 hts gX1_least_X1_isCleanWithout rfl rfl rfl (by decide +kernel) ⟨Nat.le_of_ble_eq_true rfl, Nat.le_of_ble_eq_true rfl⟩) hK hP hP (va_recv hK hP (ci := 1) (q0 := 0) rfl rfl) hS rfl hl.1 rfl (Nat.le_of_ble_eq_true rfl) dX1_least_67 ⟨Nat.le_of_ble_eq_true rfl, Nat.le_of_ble_eq_true rfl⟩ (fun r H locs hr9 hP hS => ?_)
              subst hr9
              refine lv_if_eq (x := (bi (cwK (fun j => mFoes F n j) set (mWrongs F n) n))) (tgt := 93) hx hb dX1_least_70 (by decide) (fun c_70 => ?_) (fun c_70 => ?_)
              · have c_70 := bi_e0.mp c_70
                have c_70 : mOk F n set = false := c_70
                refine lv_iload hx hb dX1_least_93 (lv_at hl 0 rfl) ?_
                refine lv_iconst (v := 1) hx hb dX1_least_95 (by decide) ?_
                refine lv_isub hx hb (x := (nI set)) (y := 1) dX1_least_96 ?_
                refine W.eq (g2 := F0 m9 97 ls (.int (nI (set - 1)) :: [])) (congrArg (fun z => F0 m9 97 ls (Value.int z :: [])) (nI_m1 (by omega))) ?_
                refine lv_iload_n hx hb dX1_least_97 rfl (lv_at hl 5 rfl) ?_
                refine lv_iand hx hb (x := (nI (set - 1))) (y := (nI (mAb F n))) dX1_least_98 ?_
                refine W.eq (g2 := F0 m9 99 ls (.int (nI ((set - 1) &&& mAb F n)) :: [])) (congrArg (fun z => F0 m9 99 ls (Value.int z :: [])) (nI_and _ _)) ?_
                refine lv_istore (lv' := [(5, .int (nI ((set - 1) &&& mAb F n))), (3, .int (nI found)), (4, .int (nI (pcn found))), (0, .ref (q 9)), (1, .int (nI (mWrongs F n))), (2, .int (nI (mAb F n)))]) hx hb dX1_least_99 hl (by decide) rfl (fun ls hl => ?_)
                refine lv_goto (tgt := 58) hx hb dX1_least_101 (by decide) ?_
                exact ih58 f9 ((set - 1) &&& mAb F n) found _ _ _ (by omega) (by have h8 : (set - 1) &&& mAb F n ≤ set - 1 := Nat.and_le_left; omega) (Nat.lt_of_le_of_lt Nat.and_le_left (by omega)) h_found (by rw [← hm]; simp [mL, hs0, c_70]) hP hD hS (lv_sub hl [0, 1, 2, 3, 4, 5] rfl)
              · have c_70 := bi_n0.mp c_70
                have c_70 : mOk F n set = true := c_70
                refine lv_iload hx hb dX1_least_73 (lv_at hl 0 rfl) ?_
                refine ro_S (As := [.int (nI set)]) (rest := []) ⟨hx, hb, hml, hown, hts⟩ (c_X1_count l set hs1) (va_cwS 1 hts gX1_least_X1_count rfl rfl rfl (by decide +kernel) ⟨Nat.le_of_ble_eq_true rfl, Nat.le_of_ble_eq_true rfl⟩) hP hS rfl hl.1 rfl (Nat.le_of_ble_eq_true rfl) dX1_least_75 ⟨Nat.le_of_ble_eq_true rfl, Nat.le_of_ble_eq_true rfl⟩ (fun r H locs hr9 hP hS => ?_)
                subst hr9
                refine lv_iload hx hb dX1_least_78 (lv_at hl 2 rfl) ?_
                refine lv_icmp_gt (x := (nI (pcn set))) (y := (nI (pcn found))) (tgt := 93) hx hb dX1_least_80 (by decide) (fun c_80 => ?_) (fun c_80 => ?_)
                · have c_80 : pcn found < pcn set := (nI_ltI (by have := pcn_le found; omega) (by have := pcn_le set; omega)).mp c_80
                  refine lv_iload hx hb dX1_least_93 (lv_at hl 0 rfl) ?_
                  refine lv_iconst (v := 1) hx hb dX1_least_95 (by decide) ?_
                  refine lv_isub hx hb (x := (nI set)) (y := 1) dX1_least_96 ?_
                  refine W.eq (g2 := F0 m9 97 ls (.int (nI (set - 1)) :: [])) (congrArg (fun z => F0 m9 97 ls (Value.int z :: [])) (nI_m1 (by omega))) ?_
                  refine lv_iload_n hx hb dX1_least_97 rfl (lv_at hl 5 rfl) ?_
                  refine lv_iand hx hb (x := (nI (set - 1))) (y := (nI (mAb F n))) dX1_least_98 ?_
                  refine W.eq (g2 := F0 m9 99 ls (.int (nI ((set - 1) &&& mAb F n)) :: [])) (congrArg (fun z => F0 m9 99 ls (Value.int z :: [])) (nI_and _ _)) ?_
                  refine lv_istore (lv' := [(5, .int (nI ((set - 1) &&& mAb F n))), (3, .int (nI found)), (4, .int (nI (pcn found))), (0, .ref (q 9)), (1, .int (nI (mWrongs F n))), (2, .int (nI (mAb F n)))]) hx hb dX1_least_99 hl (by decide) rfl (fun ls hl => ?_)
                  refine lv_goto (tgt := 58) hx hb dX1_least_101 (by decide) ?_
                  exact ih58 f9 ((set - 1) &&& mAb F n) found _ _ _ (by omega) (by have h8 : (set - 1) &&& mAb F n ≤ set - 1 := Nat.and_le_left; omega) (Nat.lt_of_le_of_lt Nat.and_le_left (by omega)) h_found (by rw [← hm]; simp [mL, hs0, c_70, eq_true c_80]) hP hD hS (lv_sub hl [0, 1, 2, 3, 4, 5] rfl)
                · have c_80 : ¬ pcn found < pcn set := fun e => c_80 ((nI_ltI (by have := pcn_le found; omega) (by have := pcn_le set; omega)).mpr e)
                  refine lv_iload hx hb dX1_least_83 (lv_at hl 0 rfl) ?_
                  refine lv_istore_n (lv' := [(3, .int (nI set)), (5, .int (nI set)), (4, .int (nI (pcn found))), (0, .ref (q 9)), (1, .int (nI (mWrongs F n))), (2, .int (nI (mAb F n)))]) hx hb dX1_least_85 rfl hl (by decide) rfl (fun ls hl => ?_)
                  refine lv_iload hx hb dX1_least_86 (lv_at hl 1 rfl) ?_
                  refine ro_S (As := [.int (nI set)]) (rest := []) ⟨hx, hb, hml, hown, hts⟩ (c_X1_count l set hs1) (va_cwS 1 hts gX1_least_X1_count rfl rfl rfl (by decide +kernel) ⟨Nat.le_of_ble_eq_true rfl, Nat.le_of_ble_eq_true rfl⟩) hP hS rfl hl.1 rfl (Nat.le_of_ble_eq_true rfl) dX1_least_88 ⟨Nat.le_of_ble_eq_true rfl, Nat.le_of_ble_eq_true rfl⟩ (fun r H locs hr9 hP hS => ?_)
                  subst hr9
                  refine lv_istore (lv' := [(4, .int (nI (pcn set))), (3, .int (nI set)), (5, .int (nI set)), (0, .ref (q 9)), (1, .int (nI (mWrongs F n))), (2, .int (nI (mAb F n)))]) hx hb dX1_least_91 hl (by decide) rfl (fun ls hl => ?_)
                  refine lv_iload hx hb dX1_least_93 (lv_at hl 2 rfl) ?_
                  refine lv_iconst (v := 1) hx hb dX1_least_95 (by decide) ?_
                  refine lv_isub hx hb (x := (nI set)) (y := 1) dX1_least_96 ?_
                  refine W.eq (g2 := F0 m9 97 ls (.int (nI (set - 1)) :: [])) (congrArg (fun z => F0 m9 97 ls (Value.int z :: [])) (nI_m1 (by omega))) ?_
                  refine lv_iload_n hx hb dX1_least_97 rfl (lv_at hl 5 rfl) ?_
                  refine lv_iand hx hb (x := (nI (set - 1))) (y := (nI (mAb F n))) dX1_least_98 ?_
                  refine W.eq (g2 := F0 m9 99 ls (.int (nI ((set - 1) &&& mAb F n)) :: [])) (congrArg (fun z => F0 m9 99 ls (Value.int z :: [])) (nI_and _ _)) ?_
                  refine lv_istore (lv' := [(5, .int (nI ((set - 1) &&& mAb F n))), (4, .int (nI (pcn set))), (3, .int (nI set)), (0, .ref (q 9)), (1, .int (nI (mWrongs F n))), (2, .int (nI (mAb F n)))]) hx hb dX1_least_99 hl (by decide) rfl (fun ls hl => ?_)
                  refine lv_goto (tgt := 58) hx hb dX1_least_101 (by decide) ?_
                  exact ih58 f9 ((set - 1) &&& mAb F n) set _ _ _ (by omega) (by have h8 : (set - 1) &&& mAb F n ≤ set - 1 := Nat.and_le_left; omega) (Nat.lt_of_le_of_lt Nat.and_le_left (by omega)) hs1 (by rw [← hm]; simp [mL, hs0, c_70, eq_false c_80]) hP hD hS (lv_sub hl [0, 2, 1, 3, 4, 5] rfl)
        exact L58 _ 65537 (mAb F n) (mAb F n) _ _ _ (Nat.lt_succ_self _) (Nat.lt_succ_of_lt hab) hab hab rfl hP hD hS (lv_sub hl [0, 2, 1, 4, 5, 3] rfl)
      · have hk18 : k < n := nI_lt_of c_18 (by have := hw.n; omega)
        refine lv_iload_n hx hb dX1_least_21 rfl (lv_at hl 1 rfl) ?_
        refine lv_aload_n hx hb dX1_least_22 rfl (lv_at hl 2 rfl) ?_
        refine va_get (D := D) (ci := 1) (v := .ref (q 7)) hx hb hts hin hown hK hP 0 rfl rfl 8 (by decide) f32 (fun _ h9 => h9) rfl dX1_least_23 ?_
        refine lv_iload_n hx hb dX1_least_26 rfl (lv_at hl 0 rfl) ?_
        refine xiald hx hb hK hP 8 0 rfl rfl (g := k) (hw.g hk18) (by decide) dX1_least_27 ?_
        refine lv_iconst (v := (-1)) hx hb dX1_least_28 (by decide) ?_
        refine lv_icmp_eq (x := (F 7 k)) (y := (-1)) (tgt := 38) hx hb dX1_least_29 (by decide) (fun c_29 => ?_) (fun c_29 => ?_)
        · skip
          refine lv_iconst (v := 0) hx hb dX1_least_38 (by decide) ?_
          refine lv_ior hx hb (x := (nI (bs (fun k => if F 7 k = -1 then false else true) k))) (y := 0) dX1_least_39 ?_
          refine lv_istore_n (lv' := [(2, .int ((nI (bs (fun k => if F 7 k = -1 then false else true) k)) ||| 0)), (3, .int (nI k)), (0, .ref (q 9)), (1, .int (nI (mWrongs F n)))]) hx hb dX1_least_40 rfl hl (by decide) rfl (fun ls hl => ?_)
          refine lv_iinc (v := (nI (k + 1))) (lv' := [(3, .int (nI (k + 1))), (2, .int ((nI (bs (fun k => if F 7 k = -1 then false else true) k)) ||| 0)), (0, .ref (q 9)), (1, .int (nI (mWrongs F n)))]) hx hb dX1_least_41 hl (k := 1) rfl (nI_1 k) (by decide) rfl (fun ls hl => ?_)
          refine lv_goto (tgt := 13) hx hb dX1_least_44 (by decide) ?_
          have e2 : ((nI (bs (fun k => if F 7 k = -1 then false else true) k)) ||| 0) = nI (bs (fun k => if F 7 k = -1 then false else true) (k + 1)) := bs_z (by simp [eq_true c_29])
          rw [e2] at hl
          exact ih13 (k + 1) _ _ _ (by omega) (by omega) hP hD hS (lv_sub hl [0, 1, 2, 3] rfl)
        · skip
          refine lv_iconst (v := 1) hx hb dX1_least_32 (by decide) ?_
          refine lv_iload_n hx hb dX1_least_33 rfl (lv_at hl 0 rfl) ?_
          refine lv_ishl hx hb (x := (1 : Int32)) (y := (nI k)) dX1_least_34 ?_
          refine lv_goto (tgt := 39) hx hb dX1_least_35 (by decide) ?_
          refine lv_ior hx hb (x := (nI (bs (fun k => if F 7 k = -1 then false else true) k))) (y := ((1 : Int32) <<< ((nI k) &&& 31))) dX1_least_39 ?_
          refine lv_istore_n (lv' := [(2, .int ((nI (bs (fun k => if F 7 k = -1 then false else true) k)) ||| ((1 : Int32) <<< ((nI k) &&& 31)))), (3, .int (nI k)), (0, .ref (q 9)), (1, .int (nI (mWrongs F n)))]) hx hb dX1_least_40 rfl hl (by decide) rfl (fun ls hl => ?_)
          refine lv_iinc (v := (nI (k + 1))) (lv' := [(3, .int (nI (k + 1))), (2, .int ((nI (bs (fun k => if F 7 k = -1 then false else true) k)) ||| ((1 : Int32) <<< ((nI k) &&& 31)))), (0, .ref (q 9)), (1, .int (nI (mWrongs F n)))]) hx hb dX1_least_41 hl (k := 1) rfl (nI_1 k) (by decide) rfl (fun ls hl => ?_)
          refine lv_goto (tgt := 13) hx hb dX1_least_44 (by decide) ?_
          have e2 : ((nI (bs (fun k => if F 7 k = -1 then false else true) k)) ||| ((1 : Int32) <<< ((nI k) &&& 31))) = nI (bs (fun k => if F 7 k = -1 then false else true) (k + 1)) := bs_t (by have := hw.n; omega) (by simp [eq_false c_29])
          rw [e2] at hl
          exact ih13 (k + 1) _ _ _ (by omega) (by omega) hP hD hS (lv_sub hl [0, 1, 2, 3] rfl)
  exact L13 _ 0 _ _ _ (Nat.lt_succ_self _) (Nat.zero_le _) hP hD hS (lv_sub hl [0, 1, 3, 2] rfl)
set_option maxHeartbeats 4000000 in
set_option maxRecDepth 100000 in
theorem c_X1_leaving (l : Launch) (D : va_G) (q : Nat → Nat) (F : Nat → Nat → Int32) (n : Nat) (R : Nat → Int32) (th : Int32) (cI cZ : ClassId) (sz : Nat) (hw : WF F n) : Met l yX1_leaving wsX1_leaving ({ frames := 8, cells := 0, slots := 0, locals := 182 }) (va_Pc [.ref (q 9)] (wS D (wM q F (nI n) R th cI cZ) (tIZ cI cZ) sz)) (va_Qi (fun (r : Int32) (u : Int32 × (Nat → Int32)) => u.1 = 0 ∧ r = nI (mLeast F n)) (wB D (va_A (wM q F (nI n) R th cI cZ) sz) (fun (u : Int32 × (Nat → Int32)) => wM q F (nI n) u.2 u.1 cI cZ)) (va_A (wM q F (nI n) R th cI cZ) sz)) 0 0 (va_A (wM q F (nI n) R th cI cZ) sz) := by
  refine wr_of (own := RX1) (cc := cX1_leaving) (maxL := 1) (ret := (some .int)) (by decide) rfl rfl (Nat.le_of_ble_eq_true rfl) ?_
  intro p9 e9 s m9 a9 below meth c9 ls A hx hb hr hml hlocks hown hts hP hK hD hA hl
  have hin : ∀ w ∈ wsX10, w ∈ wsX1_leaving := by decide +kernel
  have f38 := hts (.fieldLink RX1 38 "DangerousGoodsModel" "thrown" "I") (by decide +kernel)
  have hS : va_S A s.heap s.heap [] := va_S.rf
  have hl : lv_has ls 1 [(0, .ref (q 9))] := hl
  refine lv_aload_n hx hb dX1_leaving_0 rfl (lv_at hl 0 rfl) ?_
  refine lv_iconst (v := 0) hx hb dX1_leaving_1 (by decide) ?_
  refine va_put (D := D) (ci := 1) (v := .int 0) (ty := .int) hx hb hts hin tyX1 tyX1_ok nmX1 hown hK hP hD hS 0 rfl rfl 10 (by decide) f38 (fun _ h9 => h9) rfl (by decide +kernel) rfl rfl (Nat.le_of_ble_eq_true rfl) dX1_leaving_2 (fun H locs hP hD hS => ?_)
  have hP : va_P D vwCl (wM q F (nI n) R 0 cI cZ) H := hP
  have hD : va_D A (wM q F (nI n) R 0 cI cZ) := hD
  refine lv_aload_n hx hb dX1_leaving_5 rfl (lv_at hl 0 rfl) ?_
  refine wr_V (As := []) (rest := []) (wr := []) ⟨hx, hb, hml, hown, hts⟩ (c_X1_least l D q F n R 0 cI cZ _ hw) (cwV 0 hts gX1_leaving_X1_least rfl rfl rfl (by decide +kernel) ⟨Nat.le_of_ble_eq_true rfl, Nat.le_of_ble_eq_true rfl⟩) hK hP hD hA [0, 1, 2, 3, 4, 5, 6, 7, 8, 9] [] rfl rfl (by decide) rfl (by decide) (by decide) (va_recv hK hP (ci := 1) (q0 := 0) rfl rfl) hS rfl hl.1 rfl (Nat.le_of_ble_eq_true rfl) dX1_leaving_6 ⟨Nat.le_of_ble_eq_true rfl, Nat.le_of_ble_eq_true rfl⟩ (fun r9 u9 H locs h_6 hP hD hS => ?_)
  have hP : va_P D vwCl (wM q F (nI n) u9 0 cI cZ) H := hP
  have hD : va_D A (wM q F (nI n) u9 0 cI cZ) := hD
  subst h_6
  exact W.iret hx hb hr (fun t ht hW => ⟨⟨_, (0, u9), rfl, (by show (0, u9).1 = 0 ∧ (nI (mLeast F n)) = nI (mLeast F n); exact ⟨rfl, rfl⟩), by rw [ht]; exact hP, hD⟩, hS.F ht⟩) hS.2.2 dX1_leaving_9
set_option maxHeartbeats 4000000 in
set_option maxRecDepth 100000 in
theorem c_X1_fewest (l : Launch) (D : va_G) (q : Nat → Nat) (F : Nat → Nat → Int32) (n : Nat) (R : Nat → Int32) (th : Int32) (cI cZ : ClassId) (sz : Nat) (hw : WF F n) : Met l yX1_fewest wsX1_fewest ({ frames := 8, cells := 0, slots := 0, locals := 182 }) (va_Pc [.ref (q 9)] (wS D (wM q F (nI n) R th cI cZ) (tIZ cI cZ) sz)) (va_Qi (fun (r : Int32) (u : Int32 × (Nat → Int32)) => u.1 = 0 ∧ r = nI (pcn (mLeast F n))) (wB D (va_A (wM q F (nI n) R th cI cZ) sz) (fun (u : Int32 × (Nat → Int32)) => wM q F (nI n) u.2 u.1 cI cZ)) (va_A (wM q F (nI n) R th cI cZ) sz)) 0 0 (va_A (wM q F (nI n) R th cI cZ) sz) := by
  refine wr_of (own := RX1) (cc := cX1_fewest) (maxL := 1) (ret := (some .int)) (by decide) rfl rfl (Nat.le_of_ble_eq_true rfl) ?_
  intro p9 e9 s m9 a9 below meth c9 ls A hx hb hr hml hlocks hown hts hP hK hD hA hl
  have hin : ∀ w ∈ wsX10, w ∈ wsX1_fewest := by decide +kernel
  have f38 := hts (.fieldLink RX1 38 "DangerousGoodsModel" "thrown" "I") (by decide +kernel)
  have hS : va_S A s.heap s.heap [] := va_S.rf
  have hl : lv_has ls 1 [(0, .ref (q 9))] := hl
  refine lv_aload_n hx hb dX1_fewest_0 rfl (lv_at hl 0 rfl) ?_
  refine lv_iconst (v := 0) hx hb dX1_fewest_1 (by decide) ?_
  refine va_put (D := D) (ci := 1) (v := .int 0) (ty := .int) hx hb hts hin tyX1 tyX1_ok nmX1 hown hK hP hD hS 0 rfl rfl 10 (by decide) f38 (fun _ h9 => h9) rfl (by decide +kernel) rfl rfl (Nat.le_of_ble_eq_true rfl) dX1_fewest_2 (fun H locs hP hD hS => ?_)
  have hP : va_P D vwCl (wM q F (nI n) R 0 cI cZ) H := hP
  have hD : va_D A (wM q F (nI n) R 0 cI cZ) := hD
  refine lv_aload_n hx hb dX1_fewest_5 rfl (lv_at hl 0 rfl) ?_
  refine wr_V (As := []) (rest := []) (wr := []) ⟨hx, hb, hml, hown, hts⟩ (c_X1_least l D q F n R 0 cI cZ _ hw) (cwV 0 hts gX1_fewest_X1_least rfl rfl rfl (by decide +kernel) ⟨Nat.le_of_ble_eq_true rfl, Nat.le_of_ble_eq_true rfl⟩) hK hP hD hA [0, 1, 2, 3, 4, 5, 6, 7, 8, 9] [] rfl rfl (by decide) rfl (by decide) (by decide) (va_recv hK hP (ci := 1) (q0 := 0) rfl rfl) hS rfl hl.1 rfl (Nat.le_of_ble_eq_true rfl) dX1_fewest_6 ⟨Nat.le_of_ble_eq_true rfl, Nat.le_of_ble_eq_true rfl⟩ (fun r9 u9 H locs h_6 hP hD hS => ?_)
  have hP : va_P D vwCl (wM q F (nI n) u9 0 cI cZ) H := hP
  have hD : va_D A (wM q F (nI n) u9 0 cI cZ) := hD
  subst h_6
  refine ro_S (As := [.int (nI (mLeast F n))]) (rest := []) ⟨hx, hb, hml, hown, hts⟩ (c_X1_count l (mLeast F n) (mLeast_lt hw.n)) (va_cwS 1 hts gX1_fewest_X1_count rfl rfl rfl (by decide +kernel) ⟨Nat.le_of_ble_eq_true rfl, Nat.le_of_ble_eq_true rfl⟩) hP hS rfl hl.1 rfl (Nat.le_of_ble_eq_true rfl) dX1_fewest_9 ⟨Nat.le_of_ble_eq_true rfl, Nat.le_of_ble_eq_true rfl⟩ (fun r H locs hr9 hP hS => ?_)
  subst hr9
  exact W.iret hx hb hr (fun t ht hW => ⟨⟨_, (0, u9), rfl, (by show (0, u9).1 = 0 ∧ (nI (pcn (mLeast F n))) = nI (pcn (mLeast F n)); exact ⟨rfl, rfl⟩), by rw [ht]; exact hP, hD⟩, hS.F ht⟩) hS.2.2 dX1_fewest_12

/-! the loop -/
set_option maxHeartbeats 8000000 in
set_option maxRecDepth 100000 in
theorem law_head {p9 : Program} {l : Launch} {e9 : Env} {s : State} {m9 : MethodId} {below : List Frame} {meth : Method} {c9 : Code} {b L : Nat} {xs : Nat → Int32} {D : va_G} {q : Nat → Nat} {qt qo qg qm : Nat} {cI cZ : ClassId} (hL : L ≤ 260) (hfl : l.stackTraces = false) (C0 : lw_At p9 s m9 meth c9 b L xs) (htA : tBA (aL s) s) (hn9 : nC s) (hK : va_K D vwCl (tIZ cI cZ) s) {i : Nat} (hi : i ≤ 70) (ih : i < 70 → law_next p9 l e9 s m9 below meth c9 b D q qt qo qg qm cI cZ (i + 1)) {F : Nat → Nat → Int32} {n : Nat} {Rv T M G C : Nat → Int32} {H : Heap} {locs : List Loc} {ls : Array Slot}  (hw : WF F n) (hs : SY F) (hv : IV F n T M G) (hm : C 0 = nI n) (hP : va_P D vwCl (wX q F (nI n) Rv cI cZ ++ [(qt, .inl (cI, 64, .inl (T))), (qo, .inl (cI, 30, .inl (M))), (qg, .inl (cI, 48, .inl (G))), (qm, .inl (cI, 1, .inl (C)))]) H) (hD : va_D (aL s) (wX q F (nI n) Rv cI cZ ++ [(qt, .inl (cI, 64, .inl (T))), (qo, .inl (cI, 30, .inl (M))), (qg, .inl (cI, 48, .inl (G))), (qm, .inl (cI, 1, .inl (C)))])) (hS : va_S (aL s) s.heap H locs) (hl : lv_has ls 17 [(7, .int (nI i)), (6, .int 1), (0, .ref b), (1, .ref (q 9)), (2, .ref qt), (3, .ref qo), (4, .ref qg), (5, .ref qm)]) : W p9 l e9 room_1 s m9 #[Value.ref b] below meth c9 H locs (700 + 320 * i) (4000 + 1900 * i) (lw_Z below #[Value.ref b] s) (F0 m9 66 ls []) := by
  obtain ⟨hx, hb, hr, hml, hown0, hts0, hX, hbl, hlocks, hgv⟩ := id C0
  have hown : s.vm.findClass RL = some m9.cls := hown0
  have hts : ∀ w ∈ wsL_law, w.before #[Value.ref b] s = true := fun w h => hts0 w (wsL_law_in w h)
  have hA : ∀ q : Nat, s.heap.size ≤ q → aL s q := fun _ h => h
  have hbA : ¬ aL s b := Nat.not_le.mpr hbl
  have hn10 := hv.n
  have hn16 := hw.n
  refine lv_iload hx hb dL_law_66 (lv_at hl 0 rfl) ?_
  refine lv_bipush (v := 70) hx hb dL_law_68 (by decide) ?_
  refine lv_icmp_ge (x := (nI i)) (y := 70) (tgt := 838) hx hb dL_law_70 (by decide) (fun c_70 => ?_) (fun c_70 => ?_)
  · have c_70 := nl_ge (k := i) (n := 70) c_70 (by omega) (by omega)
    refine lv_iload hx hb dL_law_838 (lv_at hl 1 rfl) ?_
    refine va_forget (fun q h => hS.2.2 q h) ?_
    refine W.widen (k := 600130) (n := 7301080) (by omega) (by omega) ?_
    exact lw_ret hx hb hr hlocks dL_law_840
  · have c_70 := nl_lt (k := i) (n := 70) c_70 (by omega) (by omega)
    refine lv_iload hx hb dL_law_73 (lv_at hl 1 rfl) ?_
    refine lv_if_eq (x := 1) (tgt := 838) hx hb dL_law_75 (by decide) (fun k => absurd k (by decide)) (fun _ => ?_)
    refine lv_aload_n hx hb dL_law_78 rfl (lv_at hl 2 rfl) ?_
    refine lv_iload hx hb dL_law_79 (lv_at hl 0 rfl) ?_
    refine ro_X (As := [.ref b, .int (nI i)]) (rest := []) ⟨hx, hb, hml, hown, hts⟩ (c_L_dice l b L xs i hL (by omega)) (va_cwS 2 hts gL_law_L_dice rfl rfl rfl (by decide +kernel) ⟨Nat.le_of_ble_eq_true rfl, Nat.le_of_ble_eq_true rfl⟩) hX hbl hbA hP hS rfl hl.1 rfl (Nat.le_of_ble_eq_true rfl) dL_law_81 ⟨by show _ ≤ 600130; omega, by show _ ≤ 7301080; omega⟩ (fun r9 H locs h_81 hP hS => ?_)
    obtain ⟨x, hx9, rfl⟩ := h_81
    refine lv_istore (lv' := [(8, .int (nI x)), (7, .int (nI i)), (6, .int 1), (0, .ref b), (1, .ref (q 9)), (2, .ref qt), (3, .ref qo), (4, .ref qg), (5, .ref qm)]) hx hb dL_law_84 hl (by decide) rfl (fun ls hl => ?_)
    refine lv_iload hx hb dL_law_86 (lv_at hl 0 rfl) ?_
    refine lv_bipush (v := 32) hx hb dL_law_88 (by decide) ?_
    refine lv_idiv hx hb (x := (nI x)) (y := 32) dL_law_90 (by decide) ?_
    refine W.eq (g2 := F0 m9 91 ls (.int (nI (x / 32)) :: [])) (congrArg (fun z => F0 m9 91 ls (Value.int z :: [])) (pk_div (a := x) (d := 32) (by omega) (by omega) (by omega))) ?_
    refine lv_istore (lv' := [(9, .int (nI (x / 32))), (8, .int (nI x)), (7, .int (nI i)), (6, .int 1), (0, .ref b), (1, .ref (q 9)), (2, .ref qt), (3, .ref qo), (4, .ref qg), (5, .ref qm)]) hx hb dL_law_91 hl (by decide) rfl (fun ls hl => ?_)
    have hy : x / 32 < 67108864 := by omega
    have hxy : x / 32 = x / 32 := rfl
    generalize x / 32 = y at hy hl
    clear hxy
    refine lv_iload hx hb dL_law_93 (lv_at hl 1 rfl) ?_
    refine lv_bipush (v := 32) hx hb dL_law_95 (by decide) ?_
    refine lv_irem hx hb (x := (nI x)) (y := 32) dL_law_97 (by decide) ?_
    refine W.eq (g2 := F0 m9 98 ls (.int (nI (x % 32)) :: [])) (congrArg (fun z => F0 m9 98 ls (Value.int z :: [])) (pk_rem (a := x) (d := 32) (by omega) (by omega) (by omega))) ?_
    refine lv_istore (lv' := [(10, .int (nI (x % 32))), (9, .int (nI y)), (8, .int (nI x)), (7, .int (nI i)), (6, .int 1), (0, .ref b), (1, .ref (q 9)), (2, .ref qt), (3, .ref qo), (4, .ref qg), (5, .ref qm)]) hx hb dL_law_98 hl (by decide) rfl (fun ls hl => ?_)
    have hz : x % 32 < 32 := by omega
    generalize x % 32 = z at hz hl
    refine lv_iconst (v := 1) hx hb dL_law_100 (by decide) ?_
    refine lv_iload hx hb dL_law_101 (lv_at hl 1 rfl) ?_
    refine lv_bipush (v := 9) hx hb dL_law_103 (by decide) ?_
    refine lv_irem hx hb (x := (nI y)) (y := 9) dL_law_105 (by decide) ?_
    refine W.eq (g2 := F0 m9 106 ls (.int (nI (y % 9)) :: [.int 1])) (congrArg (fun z => F0 m9 106 ls (Value.int z :: [.int 1])) (pk_rem (a := y) (d := 9) (by omega) (by omega) (by omega))) ?_
    refine lv_iadd hx hb (x := 1) (y := (nI (y % 9))) dL_law_106 ?_
    refine W.eq (g2 := F0 m9 107 ls (.int (nI (1 + (y % 9))) :: [])) (congrArg (fun z => F0 m9 107 ls (Value.int z :: [])) (nI_add 1 (y % 9))) ?_
    refine lv_istore (lv' := [(11, .int (nI (1 + (y % 9)))), (10, .int (nI z)), (9, .int (nI y)), (8, .int (nI x)), (7, .int (nI i)), (6, .int 1), (0, .ref b), (1, .ref (q 9)), (2, .ref qt), (3, .ref qo), (4, .ref qg), (5, .ref qm)]) hx hb dL_law_107 hl (by decide) rfl (fun ls hl => ?_)
    have h1 : 1 ≤ 1 + y % 9 := by omega
    have h2 : 1 + y % 9 ≤ 9 := by omega
    generalize 1 + y % 9 = o1 at h1 h2 hl
    refine lv_iconst (v := 1) hx hb dL_law_109 (by decide) ?_
    refine lv_iload hx hb dL_law_110 (lv_at hl 2 rfl) ?_
    refine lv_bipush (v := 9) hx hb dL_law_112 (by decide) ?_
    refine lv_idiv hx hb (x := (nI y)) (y := 9) dL_law_114 (by decide) ?_
    refine W.eq (g2 := F0 m9 115 ls (.int (nI (y / 9)) :: [.int 1])) (congrArg (fun z => F0 m9 115 ls (Value.int z :: [.int 1])) (pk_div (a := y) (d := 9) (by omega) (by omega) (by omega))) ?_
    refine lv_bipush (v := 9) hx hb dL_law_115 (by decide) ?_
    refine lv_irem hx hb (x := (nI (y / 9))) (y := 9) dL_law_117 (by decide) ?_
    refine W.eq (g2 := F0 m9 118 ls (.int (nI ((y / 9) % 9)) :: [.int 1])) (congrArg (fun z => F0 m9 118 ls (Value.int z :: [.int 1])) (pk_rem (a := (y / 9)) (d := 9) (by omega) (by omega) (by omega))) ?_
    refine lv_iadd hx hb (x := 1) (y := (nI ((y / 9) % 9))) dL_law_118 ?_
    refine W.eq (g2 := F0 m9 119 ls (.int (nI (1 + ((y / 9) % 9))) :: [])) (congrArg (fun z => F0 m9 119 ls (Value.int z :: [])) (nI_add 1 ((y / 9) % 9))) ?_
    refine lv_istore (lv' := [(12, .int (nI (1 + ((y / 9) % 9)))), (11, .int (nI o1)), (10, .int (nI z)), (9, .int (nI y)), (8, .int (nI x)), (7, .int (nI i)), (6, .int 1), (0, .ref b), (1, .ref (q 9)), (2, .ref qt), (3, .ref qo), (4, .ref qg), (5, .ref qm)]) hx hb dL_law_119 hl (by decide) rfl (fun ls hl => ?_)
    have h3 : 1 ≤ 1 + y / 9 % 9 := by omega
    have h4 : 1 + y / 9 % 9 ≤ 9 := by omega
    generalize 1 + y / 9 % 9 = o2 at h3 h4 hl
    refine lv_aload hx hb dL_law_121 (lv_at hl 12 rfl) ?_
    refine lv_iconst (v := 0) hx hb dL_law_123 (by decide) ?_
    refine xiald (g := 0) hx hb hK hP 13 0 rfl rfl (by omega) (by decide) dL_law_124 ?_
    refine W.eq (g2 := F0 m9 125 ls (.int (nI n) :: [])) (congrArg (fun z => F0 m9 125 ls (Value.int z :: [])) (hm)) ?_
    have J139 : ∀ (kk : Nat) (H : Heap) (locs : List Loc) (ls : Array Slot), (0 < n → kk < n) → va_P D vwCl (wX q F (nI n) Rv cI cZ ++ [(qt, .inl (cI, 64, .inl (T))), (qo, .inl (cI, 30, .inl (M))), (qg, .inl (cI, 48, .inl (G))), (qm, .inl (cI, 1, .inl (C)))]) H → va_D (aL s) (wX q F (nI n) Rv cI cZ ++ [(qt, .inl (cI, 64, .inl (T))), (qo, .inl (cI, 30, .inl (M))), (qg, .inl (cI, 48, .inl (G))), (qm, .inl (cI, 1, .inl (C)))]) → va_S (aL s) s.heap H locs → lv_has ls 17 [(7, .int (nI i)), (6, .int 1), (8, .int (nI x)), (9, .int (nI y)), (10, .int (nI z)), (11, .int (nI o1)), (12, .int (nI o2)), (0, .ref b), (1, .ref (q 9)), (2, .ref qt), (3, .ref qo), (4, .ref qg), (5, .ref qm)] → W p9 l e9 room_1 s m9 #[Value.ref b] below meth c9 H locs (700 + 320 * i) (4000 + 1900 * i) (lw_Z below #[Value.ref b] s) (F0 m9 139 ls [.int (nI kk)]) := by
      intro kk H locs ls hkk hP hD hS hl
      refine lv_istore (lv' := [(13, .int (nI kk)), (7, .int (nI i)), (6, .int 1), (8, .int (nI x)), (9, .int (nI y)), (10, .int (nI z)), (11, .int (nI o1)), (12, .int (nI o2)), (0, .ref b), (1, .ref (q 9)), (2, .ref qt), (3, .ref qo), (4, .ref qg), (5, .ref qm)]) hx hb dL_law_139 hl (by decide) rfl (fun ls hl => ?_)
      have J164 : ∀  (H : Heap) (locs : List Loc) (ls : Array Slot), (n < 10) → va_P D vwCl (wX q F (nI n) Rv cI cZ ++ [(qt, .inl (cI, 64, .inl (T))), (qo, .inl (cI, 30, .inl (M))), (qg, .inl (cI, 48, .inl (G))), (qm, .inl (cI, 1, .inl (C)))]) H → va_D (aL s) (wX q F (nI n) Rv cI cZ ++ [(qt, .inl (cI, 64, .inl (T))), (qo, .inl (cI, 30, .inl (M))), (qg, .inl (cI, 48, .inl (G))), (qm, .inl (cI, 1, .inl (C)))]) → va_S (aL s) s.heap H locs → lv_has ls 17 [(7, .int (nI i)), (6, .int 1), (8, .int (nI x)), (9, .int (nI y)), (10, .int (nI z)), (11, .int (nI o1)), (12, .int (nI o2)), (13, .int (nI kk)), (0, .ref b), (1, .ref (q 9)), (2, .ref qt), (3, .ref qo), (4, .ref qg), (5, .ref qm)] → W p9 l e9 room_1 s m9 #[Value.ref b] below meth c9 H locs (700 + 320 * i) (4000 + 1900 * i) (lw_Z below #[Value.ref b] s) (F0 m9 164 ls []) := by
        intro  H locs ls hn hP hD hS hl
        exact law_a164 hL hfl C0 htA hn9 hK c_70 hx9 hy (law_tail_of hL hfl C0 htA hn9 hK c_70 hx9 hy ih) h1 h2 h3 h4 hn hw hs hv hm hP hD hS (lv_sub hl [0, 1, 2, 3, 4, 5, 6, 7, 8, 9, 10, 11, 12, 13] rfl)
      have J305 : ∀  (H : Heap) (locs : List Loc) (ls : Array Slot), (2 ≤ n) → va_P D vwCl (wX q F (nI n) Rv cI cZ ++ [(qt, .inl (cI, 64, .inl (T))), (qo, .inl (cI, 30, .inl (M))), (qg, .inl (cI, 48, .inl (G))), (qm, .inl (cI, 1, .inl (C)))]) H → va_D (aL s) (wX q F (nI n) Rv cI cZ ++ [(qt, .inl (cI, 64, .inl (T))), (qo, .inl (cI, 30, .inl (M))), (qg, .inl (cI, 48, .inl (G))), (qm, .inl (cI, 1, .inl (C)))]) → va_S (aL s) s.heap H locs → lv_has ls 17 [(7, .int (nI i)), (6, .int 1), (8, .int (nI x)), (9, .int (nI y)), (10, .int (nI z)), (11, .int (nI o1)), (12, .int (nI o2)), (13, .int (nI kk)), (0, .ref b), (1, .ref (q 9)), (2, .ref qt), (3, .ref qo), (4, .ref qg), (5, .ref qm)] → W p9 l e9 room_1 s m9 #[Value.ref b] below meth c9 H locs (700 + 320 * i) (4000 + 1900 * i) (lw_Z below #[Value.ref b] s) (F0 m9 305 ls []) := by
        intro  H locs ls hn2 hP hD hS hl
        exact law_305 hL hfl C0 htA hn9 hK c_70 hx9 hy (law_tail_of hL hfl C0 htA hn9 hK c_70 hx9 hy ih) h1 h2 h3 h4 hz hn2 (hkk (by omega)) hw hs hv hm hP hD hS (lv_sub hl [0, 1, 2, 3, 4, 5, 6, 7, 8, 9, 10, 11, 12, 13] rfl)
      refine lv_aload hx hb dL_law_141 (lv_at hl 13 rfl) ?_
      refine lv_iconst (v := 0) hx hb dL_law_143 (by decide) ?_
      refine xiald (g := 0) hx hb hK hP 13 0 rfl rfl (by omega) (by decide) dL_law_144 ?_
      refine W.eq (g2 := F0 m9 145 ls (.int (nI n) :: [])) (congrArg (fun z => F0 m9 145 ls (Value.int z :: [])) (hm)) ?_
      refine lv_iconst (v := 2) hx hb dL_law_145 (by decide) ?_
      refine lv_icmp_lt (x := (nI n)) (y := 2) (tgt := 164) hx hb dL_law_146 (by decide) (fun c_146 => ?_) (fun c_146 => ?_)
      · have c_146 := nt_lt (k := n) (n := 2) c_146 (by omega) (by omega)
        exact J164  _ _ _ (by omega) hP hD hS (lv_sub hl [1, 2, 3, 4, 5, 6, 7, 0, 8, 9, 10, 11, 12, 13] rfl)
      · have c_146 := nt_ge (k := n) (n := 2) c_146 (by omega) (by omega)
        refine lv_iload hx hb dL_law_149 (lv_at hl 5 rfl) ?_
        refine lv_iconst (v := 5) hx hb dL_law_151 (by decide) ?_
        refine lv_icmp_ge (x := (nI z)) (y := 5) (tgt := 305) hx hb dL_law_152 (by decide) (fun c_152 => ?_) (fun c_152 => ?_)
        · have c_152 := nl_ge (k := z) (n := 5) c_152 (by omega) (by omega)
          exact J305  _ _ _ (by omega) hP hD hS (lv_sub hl [1, 2, 3, 4, 5, 6, 7, 0, 8, 9, 10, 11, 12, 13] rfl)
        · have c_152 := nl_lt (k := z) (n := 5) c_152 (by omega) (by omega)
          refine lv_aload hx hb dL_law_155 (lv_at hl 13 rfl) ?_
          refine lv_iconst (v := 0) hx hb dL_law_157 (by decide) ?_
          refine xiald (g := 0) hx hb hK hP 13 0 rfl rfl (by omega) (by decide) dL_law_158 ?_
          refine W.eq (g2 := F0 m9 159 ls (.int (nI n) :: [])) (congrArg (fun z => F0 m9 159 ls (Value.int z :: [])) (hm)) ?_
          refine lv_bipush (v := 10) hx hb dL_law_159 (by decide) ?_
          refine lv_icmp_ge (x := (nI n)) (y := 10) (tgt := 305) hx hb dL_law_161 (by decide) (fun c_161 => ?_) (fun c_161 => ?_)
          · have c_161 := nl_ge (k := n) (n := 10) c_161 (by omega) (by omega)
            exact J305  _ _ _ (by omega) hP hD hS (lv_sub hl [1, 2, 3, 4, 5, 6, 7, 0, 8, 9, 10, 11, 12, 13] rfl)
          · have c_161 := nl_lt (k := n) (n := 10) c_161 (by omega) (by omega)
            exact J164  _ _ _ (by omega) hP hD hS (lv_sub hl [1, 2, 3, 4, 5, 6, 7, 0, 8, 9, 10, 11, 12, 13] rfl)
    refine lv_if_ne (x := (nI n)) (tgt := 132) hx hb dL_law_125 (by decide) (fun c_125 => ?_) (fun c_125 => ?_)
    · have c_125 := nq_ne (k := n) (n := 0) c_125 (by omega) (by omega)
      refine lv_iload hx hb dL_law_132 (lv_at hl 3 rfl) ?_
      refine lv_aload hx hb dL_law_134 (lv_at hl 12 rfl) ?_
      refine lv_iconst (v := 0) hx hb dL_law_136 (by decide) ?_
      refine xiald (g := 0) hx hb hK hP 13 0 rfl rfl (by omega) (by decide) dL_law_137 ?_
      refine W.eq (g2 := F0 m9 138 ls (.int (nI n) :: [.int (nI y)])) (congrArg (fun z => F0 m9 138 ls (Value.int z :: [.int (nI y)])) (hm)) ?_
      refine lv_irem hx hb (x := (nI y)) (y := (nI n)) dL_law_138 (nI_ne0 (by omega) (by omega)) ?_
      refine W.eq (g2 := F0 m9 139 ls (.int (nI (y % n)) :: [])) (congrArg (fun z => F0 m9 139 ls (Value.int z :: [])) (pk_rem (a := y) (d := n) (by omega) (by omega) (by omega))) ?_
      exact J139 (y % n) _ _ _ (fun h => Nat.mod_lt _ h) hP hD hS (lv_sub hl [5, 6, 4, 3, 2, 1, 0, 7, 8, 9, 10, 11, 12] rfl)
    · have c_125 := nq_eq (k := n) (n := 0) c_125 (by omega) (by omega)
      refine lv_iconst (v := 0) hx hb dL_law_128 (by decide) ?_
      refine lv_goto (tgt := 139) hx hb dL_law_129 (by decide) ?_
      exact J139 0 _ _ _ (fun h => h) hP hD hS (lv_sub hl [5, 6, 4, 3, 2, 1, 0, 7, 8, 9, 10, 11, 12] rfl)
theorem law_loop {p9 : Program} {l : Launch} {e9 : Env} {s : State} {m9 : MethodId} {below : List Frame} {meth : Method} {c9 : Code} {b L : Nat} {xs : Nat → Int32} {D : va_G} {q : Nat → Nat} {qt qo qg qm : Nat} {cI cZ : ClassId} (hL : L ≤ 260) (hfl : l.stackTraces = false) (C0 : lw_At p9 s m9 meth c9 b L xs) (htA : tBA (aL s) s) (hn9 : nC s) (hK : va_K D vwCl (tIZ cI cZ) s) : ∀ (d i : Nat), i ≤ 70 → 71 - i ≤ d → law_next p9 l e9 s m9 below meth c9 b D q qt qo qg qm cI cZ i := by
  intro d
  induction d with
  | zero => intro i h1 h2; omega
  | succ d ih =>
    intro i h1 h2 F n Rv T M G C H locs ls hw hs hv hm hP hD hS hl
    exact law_head hL hfl C0 htA hn9 hK h1 (fun h => ih (i + 1) (by omega) (by omega)) hw hs hv hm hP hD hS hl

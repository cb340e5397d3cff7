/-! behind each call of the law -/
set_option maxHeartbeats 8000000 in
set_option maxRecDepth 100000 in
theorem law_t745 {p9 : Program} {l : Launch} {e9 : Env} {s : State} {m9 : MethodId} {below : List Frame} {meth : Method} {c9 : Code} {b L : Nat} {xs : Nat → Int32} {D : va_G} {q : Nat → Nat} {qt qo qg qm : Nat} {cI cZ : ClassId} (hL : L ≤ 260) (hfl : l.stackTraces = false) (C0 : lw_At p9 s m9 meth c9 b L xs) (htA : tBA (aL s) s) (hn9 : nC s) (hK : va_K D vwCl (tIZ cI cZ) s) {i x y : Nat} (hi : i < 70) (hx9 : x < 2 ^ 31) (hy : y < 67108864) (ih : law_next p9 l e9 s m9 below meth c9 b D q qt qo qg qm cI cZ (i + 1)) {F : Nat → Nat → Int32} {n : Nat} {Rv T M G C : Nat → Int32} {H : Heap} {locs : List Loc} {ls : Array Slot}  (hw : WF F n) (hs : SY F) (hv : IV F n T M G) (hm : C 0 = nI n) (hP : va_P D vwCl (wX q F (nI n) Rv cI cZ ++ [(qt, .inl (cI, 64, .inl (T))), (qo, .inl (cI, 30, .inl (M))), (qg, .inl (cI, 48, .inl (G))), (qm, .inl (cI, 1, .inl (C)))]) H) (hD : va_D (aL s) (wX q F (nI n) Rv cI cZ ++ [(qt, .inl (cI, 64, .inl (T))), (qo, .inl (cI, 30, .inl (M))), (qg, .inl (cI, 48, .inl (G))), (qm, .inl (cI, 1, .inl (C)))])) (hS : va_S (aL s) s.heap H locs) (hl : lv_has ls 17 [(7, .int (nI i)), (6, .int 1), (8, .int (nI x)), (9, .int (nI y)), (0, .ref b), (1, .ref (q 9)), (2, .ref qt), (3, .ref qo), (4, .ref qg), (5, .ref qm)]) : W p9 l e9 room_1 s m9 #[Value.ref b] below meth c9 H locs (710 + 320 * i) (4040 + 1900 * i) (lw_Z below #[Value.ref b] s) (F0 m9 745 ls []) := by
  obtain ⟨hx, hb, hr, hml, hown0, hts0, hX, hbl, hlocks, hgv⟩ := id C0
  have hown : s.vm.findClass RL = some m9.cls := hown0
  have hts : ∀ w ∈ wsL_law, w.before #[Value.ref b] s = true := fun w h => hts0 w (wsL_law_in w h)
  have hA : ∀ q : Nat, s.heap.size ≤ q → aL s q := fun _ h => h
  have hbA : ¬ aL s b := Nat.not_le.mpr hbl
  have hn10 := hv.n
  have hn16 := hw.n
  refine lv_iload hx hb dL_law_745 (lv_at hl 1 rfl) ?_
  refine lv_if_eq (x := 1) (tgt := 829) hx hb dL_law_747 (by decide) (fun k => absurd k (by decide)) (fun _ => ?_)
  refine lv_aload_n hx hb dL_law_750 rfl (lv_at hl 5 rfl) ?_
  refine lv_aload_n hx hb dL_law_751 rfl (lv_at hl 6 rfl) ?_
  refine lv_aload_n hx hb dL_law_752 rfl (lv_at hl 7 rfl) ?_
  refine lv_aload hx hb dL_law_753 (lv_at hl 8 rfl) ?_
  refine lv_aload hx hb dL_law_755 (lv_at hl 9 rfl) ?_
  refine ro_SW (As := [.ref (q 9), .ref qt, .ref qo, .ref qg, .ref qm]) (rest := []) ⟨hx, hb, hml, hown, hts⟩ (c_L_areGoods l D q F n Rv cI cZ qt (T) qo (M) qg (G) qm (C) hw hs hv hm) (va_cwS 5 hts gL_law_L_areGoods rfl rfl rfl (by decide +kernel) ⟨Nat.le_of_ble_eq_true rfl, Nat.le_of_ble_eq_true rfl⟩) hK hP (hP.sub [0, 1, 2, 3, 4, 5, 6, 7, 8, 9, 10, 11, 12, 13] rfl) hS rfl hl.1 rfl (Nat.le_of_ble_eq_true rfl) dL_law_757 ⟨by show _ ≤ 600130; omega, by show _ ≤ 7301080; omega⟩ (fun r9 H locs h_757 hP hS => ?_)
  obtain rfl := h_757
  refine lv_if_eq (x := 1) (tgt := 829) hx hb dL_law_760 (by decide) (fun k => absurd k (by decide)) (fun _ => ?_)
  have J795 : ∀  (H : Heap) (locs : List Loc) (ls : Array Slot), va_P D vwCl (wX q F (nI n) Rv cI cZ ++ [(qt, .inl (cI, 64, .inl (T))), (qo, .inl (cI, 30, .inl (M))), (qg, .inl (cI, 48, .inl (G))), (qm, .inl (cI, 1, .inl (C)))]) H → va_D (aL s) (wX q F (nI n) Rv cI cZ ++ [(qt, .inl (cI, 64, .inl (T))), (qo, .inl (cI, 30, .inl (M))), (qg, .inl (cI, 48, .inl (G))), (qm, .inl (cI, 1, .inl (C)))]) → va_S (aL s) s.heap H locs → lv_has ls 17 [(7, .int (nI i)), (6, .int 1), (8, .int (nI x)), (9, .int (nI y)), (0, .ref b), (1, .ref (q 9)), (2, .ref qt), (3, .ref qo), (4, .ref qg), (5, .ref qm)] → W p9 l e9 room_1 s m9 #[Value.ref b] below meth c9 H locs (710 + 320 * i) (4040 + 1900 * i) (lw_Z below #[Value.ref b] s) (F0 m9 795 ls []) := by
    intro  H locs ls  hP hD hS hl
    refine lv_aload_n hx hb dL_law_795 rfl (lv_at hl 5 rfl) ?_
    refine lv_aload hx hb dL_law_796 (lv_at hl 9 rfl) ?_
    refine wr_S (As := [.ref (q 9), .ref qm]) (rest := []) (wr := [(qt, .inl (cI, 64, .inl (T))), (qo, .inl (cI, 30, .inl (M))), (qg, .inl (cI, 48, .inl (G)))]) ⟨hx, hb, hml, hown, hts⟩ (c_L_isLeaving l D q F n Rv cI cZ qm (C) _ hw hs hm) (va_cwS 2 hts gL_law_L_isLeaving rfl rfl rfl (by decide +kernel) ⟨Nat.le_of_ble_eq_true rfl, Nat.le_of_ble_eq_true rfl⟩) hK hP hD hA [0, 1, 2, 3, 4, 5, 6, 7, 8, 9, 13] [10, 11, 12] rfl rfl (by decide) rfl (by decide) (by decide) hS rfl hl.1 rfl (Nat.le_of_ble_eq_true rfl) dL_law_798 ⟨by show _ ≤ 600130; omega, by show _ ≤ 7301080; omega⟩ (fun r9 R_798 H locs h_798 hP hD hS => ?_)
    obtain rfl := h_798
    have hP : va_P D vwCl (wX q F (nI n) R_798 cI cZ ++ [(qt, .inl (cI, 64, .inl (T))), (qo, .inl (cI, 30, .inl (M))), (qg, .inl (cI, 48, .inl (G))), (qm, .inl (cI, 1, .inl (C)))]) H := hP.sub [3, 4, 5, 6, 7, 8, 9, 10, 11, 12, 0, 1, 2, 13] rfl
    have hD : va_D (aL s) (wX q F (nI n) R_798 cI cZ ++ [(qt, .inl (cI, 64, .inl (T))), (qo, .inl (cI, 30, .inl (M))), (qg, .inl (cI, 48, .inl (G))), (qm, .inl (cI, 1, .inl (C)))]) := hD.sub [3, 4, 5, 6, 7, 8, 9, 10, 11, 12, 0, 1, 2, 13] (by decide) rfl
    refine lv_if_eq (x := 1) (tgt := 829) hx hb dL_law_801 (by decide) (fun k => absurd k (by decide)) (fun _ => ?_)
    refine lv_iload hx hb dL_law_804 (lv_at hl 0 rfl) ?_
    refine lv_bipush (v := 20) hx hb dL_law_806 (by decide) ?_
    refine lv_irem hx hb (x := (nI i)) (y := 20) dL_law_808 (by decide) ?_
    refine W.eq (g2 := F0 m9 809 ls (.int (nI (i % 20)) :: [])) (congrArg (fun z => F0 m9 809 ls (Value.int z :: [])) (pk_rem (a := i) (d := 20) (by omega) (by omega) (by omega))) ?_
    refine lv_if_gt (x := (nI (i % 20))) (tgt := 825) hx hb dL_law_809 (by decide) (fun c_809 => ?_) (fun c_809 => ?_)
    · have c_809 := nt_lt (k := 0) (n := (i % 20)) c_809 (by omega) (by omega)
      refine lv_iconst (v := 1) hx hb dL_law_825 (by decide) ?_
      refine lv_goto (tgt := 830) hx hb dL_law_826 (by decide) ?_
      refine lv_istore (lv' := [(6, .int 1), (7, .int (nI i)), (8, .int (nI x)), (9, .int (nI y)), (0, .ref b), (1, .ref (q 9)), (2, .ref qt), (3, .ref qo), (4, .ref qg), (5, .ref qm)]) hx hb dL_law_830 hl (by decide) rfl (fun ls hl => ?_)
      refine lv_iinc (v := (nI (i + 1))) (lv' := [(7, .int (nI (i + 1))), (6, .int 1), (8, .int (nI x)), (9, .int (nI y)), (0, .ref b), (1, .ref (q 9)), (2, .ref qt), (3, .ref qo), (4, .ref qg), (5, .ref qm)]) hx hb dL_law_832 hl (k := 1) rfl (nI_add i 1) (by decide) rfl (fun ls hl => ?_)
      refine lv_goto (tgt := 66) hx hb dL_law_835 (by decide) ?_
      refine W.widen (k := 700 + 320 * (i + 1)) (n := 4000 + 1900 * (i + 1)) (by omega) (by omega) ?_
      exact ih _ _ _ _ _ _ _ _ _ _ hw hs hv hm hP hD hS (lv_sub hl [0, 1, 4, 5, 6, 7, 8, 9] rfl)
    · have c_809 := nt_ge (k := 0) (n := (i % 20)) c_809 (by omega) (by omega)
      refine lv_aload_n hx hb dL_law_812 rfl (lv_at hl 5 rfl) ?_
      refine lv_aload hx hb dL_law_813 (lv_at hl 9 rfl) ?_
      refine lv_iload hx hb dL_law_815 (lv_at hl 2 rfl) ?_
      refine lv_iconst (v := 3) hx hb dL_law_817 (by decide) ?_
      refine lv_idiv hx hb (x := (nI x)) (y := 3) dL_law_818 (by decide) ?_
      refine W.eq (g2 := F0 m9 819 ls (.int (nI (x / 3)) :: [.ref qm, .ref (q 9)])) (congrArg (fun z => F0 m9 819 ls (Value.int z :: [.ref qm, .ref (q 9)])) (pk_div (a := x) (d := 3) (by omega) (by omega) (by omega))) ?_
      refine la_S (As := [.ref (q 9), .ref qm, .int (nI (x / 3))]) (rest := []) (wr := [(qt, .inl (cI, 64, .inl (T))), (qo, .inl (cI, 30, .inl (M))), (qg, .inl (cI, 48, .inl (G)))]) ⟨hx, hb, hml, hown, hts⟩ (c_L_isRefused l hfl D q F n R_798 cI cZ qm (C) _ (x / 3) hw hm hn10 (by omega)) (va_cwS 3 hts gL_law_L_isRefused rfl rfl rfl (by decide +kernel) ⟨Nat.le_of_ble_eq_true rfl, Nat.le_of_ble_eq_true rfl⟩) hn9 htA hK hP hD hA [0, 1, 2, 3, 4, 5, 6, 7, 8, 9, 13] [10, 11, 12] rfl rfl (by decide) rfl (by decide) (by decide) hS rfl hl.1 rfl (Nat.le_of_ble_eq_true rfl) dL_law_819 ⟨by show _ ≤ 600130; omega, by show _ ≤ 7301080; omega⟩ (fun r9 R_819 H locs h_819 hP hD hS => ?_)
      obtain rfl := h_819
      have hP : va_P D vwCl (wX q F (nI n) R_819 cI cZ ++ [(qt, .inl (cI, 64, .inl (T))), (qo, .inl (cI, 30, .inl (M))), (qg, .inl (cI, 48, .inl (G))), (qm, .inl (cI, 1, .inl (C)))]) H := hP.sub [3, 4, 5, 6, 7, 8, 9, 10, 11, 12, 0, 1, 2, 13] rfl
      have hD : va_D (aL s) (wX q F (nI n) R_819 cI cZ ++ [(qt, .inl (cI, 64, .inl (T))), (qo, .inl (cI, 30, .inl (M))), (qg, .inl (cI, 48, .inl (G))), (qm, .inl (cI, 1, .inl (C)))]) := hD.sub [3, 4, 5, 6, 7, 8, 9, 10, 11, 12, 0, 1, 2, 13] (by decide) rfl
      refine lv_if_eq (x := 1) (tgt := 829) hx hb dL_law_822 (by decide) (fun k => absurd k (by decide)) (fun _ => ?_)
      refine lv_iconst (v := 1) hx hb dL_law_825 (by decide) ?_
      refine lv_goto (tgt := 830) hx hb dL_law_826 (by decide) ?_
      refine lv_istore (lv' := [(6, .int 1), (7, .int (nI i)), (8, .int (nI x)), (9, .int (nI y)), (0, .ref b), (1, .ref (q 9)), (2, .ref qt), (3, .ref qo), (4, .ref qg), (5, .ref qm)]) hx hb dL_law_830 hl (by decide) rfl (fun ls hl => ?_)
      refine lv_iinc (v := (nI (i + 1))) (lv' := [(7, .int (nI (i + 1))), (6, .int 1), (8, .int (nI x)), (9, .int (nI y)), (0, .ref b), (1, .ref (q 9)), (2, .ref qt), (3, .ref qo), (4, .ref qg), (5, .ref qm)]) hx hb dL_law_832 hl (k := 1) rfl (nI_add i 1) (by decide) rfl (fun ls hl => ?_)
      refine lv_goto (tgt := 66) hx hb dL_law_835 (by decide) ?_
      refine W.widen (k := 700 + 320 * (i + 1)) (n := 4000 + 1900 * (i + 1)) (by omega) (by omega) ?_
      exact ih _ _ _ _ _ _ _ _ _ _ hw hs hv hm hP hD hS (lv_sub hl [0, 1, 4, 5, 6, 7, 8, 9] rfl)
  refine lv_aload hx hb dL_law_763 (lv_at hl 9 rfl) ?_
  refine lv_iconst (v := 0) hx hb dL_law_765 (by decide) ?_
  refine xiald (g := 0) hx hb hK hP 13 0 rfl rfl (by omega) (by decide) dL_law_766 ?_
  refine W.eq (g2 := F0 m9 767 ls (.int (nI n) :: [])) (congrArg (fun z => F0 m9 767 ls (Value.int z :: [])) (hm)) ?_
  refine lv_if_eq (x := (nI n)) (tgt := 795) hx hb dL_law_767 (by decide) (fun c_767 => ?_) (fun c_767 => ?_)
  · have c_767 := nq_eq (k := n) (n := 0) c_767 (by omega) (by omega)
    exact J795  _ _ _  hP hD hS (lv_sub hl [0, 1, 2, 3, 4, 5, 6, 7, 8, 9] rfl)
  · have c_767 := nq_ne (k := n) (n := 0) c_767 (by omega) (by omega)
    refine lv_aload_n hx hb dL_law_770 rfl (lv_at hl 5 rfl) ?_
    refine lv_iload hx hb dL_law_771 (lv_at hl 3 rfl) ?_
    refine lv_bipush (v := 7) hx hb dL_law_773 (by decide) ?_
    refine lv_idiv hx hb (x := (nI y)) (y := 7) dL_law_775 (by decide) ?_
    refine W.eq (g2 := F0 m9 776 ls (.int (nI (y / 7)) :: [.ref (q 9)])) (congrArg (fun z => F0 m9 776 ls (Value.int z :: [.ref (q 9)])) (pk_div (a := y) (d := 7) (by omega) (by omega) (by omega))) ?_
    refine lv_aload hx hb dL_law_776 (lv_at hl 9 rfl) ?_
    refine lv_iconst (v := 0) hx hb dL_law_778 (by decide) ?_
    refine xiald (g := 0) hx hb hK hP 13 0 rfl rfl (by omega) (by decide) dL_law_779 ?_
    refine W.eq (g2 := F0 m9 780 ls (.int (nI n) :: [.int (nI (y / 7)), .ref (q 9)])) (congrArg (fun z => F0 m9 780 ls (Value.int z :: [.int (nI (y / 7)), .ref (q 9)])) (hm)) ?_
    refine lv_irem hx hb (x := (nI (y / 7))) (y := (nI n)) dL_law_780 (nI_ne0 (by omega) (by omega)) ?_
    refine W.eq (g2 := F0 m9 781 ls (.int (nI ((y / 7) % n)) :: [.ref (q 9)])) (congrArg (fun z => F0 m9 781 ls (Value.int z :: [.ref (q 9)])) (pk_rem (a := (y / 7)) (d := n) (by omega) (by omega) (by omega))) ?_
    refine lv_iload hx hb dL_law_781 (lv_at hl 3 rfl) ?_
    refine lv_bipush (v := 90) hx hb dL_law_783 (by decide) ?_
    refine lv_idiv hx hb (x := (nI y)) (y := 90) dL_law_785 (by decide) ?_
    refine W.eq (g2 := F0 m9 786 ls (.int (nI (y / 90)) :: [.int (nI ((y / 7) % n)), .ref (q 9)])) (congrArg (fun z => F0 m9 786 ls (Value.int z :: [.int (nI ((y / 7) % n)), .ref (q 9)])) (pk_div (a := y) (d := 90) (by omega) (by omega) (by omega))) ?_
    refine lv_bipush (v := 48) hx hb dL_law_786 (by decide) ?_
    refine lv_irem hx hb (x := (nI (y / 90))) (y := 48) dL_law_788 (by decide) ?_
    refine W.eq (g2 := F0 m9 789 ls (.int (nI ((y / 90) % 48)) :: [.int (nI ((y / 7) % n)), .ref (q 9)])) (congrArg (fun z => F0 m9 789 ls (Value.int z :: [.int (nI ((y / 7) % n)), .ref (q 9)])) (pk_rem (a := (y / 90)) (d := 48) (by omega) (by omega) (by omega))) ?_
    refine wr_S (As := [.ref (q 9), .int (nI ((y / 7) % n)), .int (nI ((y / 90) % 48))]) (rest := []) (wr := [(qt, .inl (cI, 64, .inl (T))), (qo, .inl (cI, 30, .inl (M))), (qg, .inl (cI, 48, .inl (G))), (qm, .inl (cI, 1, .inl (C)))]) ⟨hx, hb, hml, hown, hts⟩ (c_L_isPlaceFor l D q F n Rv cI cZ _ ((y / 7) % n) ((y / 90) % 48) hw (Nat.mod_lt _ (by omega)) (by omega)) (va_cwS 3 hts gL_law_L_isPlaceFor rfl rfl rfl (by decide +kernel) ⟨Nat.le_of_ble_eq_true rfl, Nat.le_of_ble_eq_true rfl⟩) hK hP hD hA [0, 1, 2, 3, 4, 5, 6, 7, 8, 9] [10, 11, 12, 13] rfl rfl (by decide) rfl (by decide) (by decide) hS rfl hl.1 rfl (Nat.le_of_ble_eq_true rfl) dL_law_789 ⟨by show _ ≤ 600130; omega, by show _ ≤ 7301080; omega⟩ (fun r9 u9 H locs h_789 hP hD hS => ?_)
    obtain rfl := h_789
    have hP : va_P D vwCl (wX q F (nI n) Rv cI cZ ++ [(qt, .inl (cI, 64, .inl (T))), (qo, .inl (cI, 30, .inl (M))), (qg, .inl (cI, 48, .inl (G))), (qm, .inl (cI, 1, .inl (C)))]) H := hP.sub [4, 5, 6, 7, 8, 9, 10, 11, 12, 13, 0, 1, 2, 3] rfl
    have hD : va_D (aL s) (wX q F (nI n) Rv cI cZ ++ [(qt, .inl (cI, 64, .inl (T))), (qo, .inl (cI, 30, .inl (M))), (qg, .inl (cI, 48, .inl (G))), (qm, .inl (cI, 1, .inl (C)))]) := hD.sub [4, 5, 6, 7, 8, 9, 10, 11, 12, 13, 0, 1, 2, 3] (by decide) rfl
    refine lv_if_eq (x := 1) (tgt := 829) hx hb dL_law_792 (by decide) (fun k => absurd k (by decide)) (fun _ => ?_)
    exact J795  _ _ _  hP hD hS (lv_sub hl [0, 1, 2, 3, 4, 5, 6, 7, 8, 9] rfl)
theorem law_tail_of {p9 : Program} {l : Launch} {e9 : Env} {s : State} {m9 : MethodId} {below : List Frame} {meth : Method} {c9 : Code} {b L : Nat} {xs : Nat → Int32} {D : va_G} {q : Nat → Nat} {qt qo qg qm : Nat} {cI cZ : ClassId} (hL : L ≤ 260) (hfl : l.stackTraces = false) (C0 : lw_At p9 s m9 meth c9 b L xs) (htA : tBA (aL s) s) (hn9 : nC s) (hK : va_K D vwCl (tIZ cI cZ) s) {i x y : Nat} (hi : i < 70) (hx9 : x < 2 ^ 31) (hy : y < 67108864) (ih : i < 70 → law_next p9 l e9 s m9 below meth c9 b D q qt qo qg qm cI cZ (i + 1)) : law_tail p9 l e9 s m9 below meth c9 b D q qt qo qg qm cI cZ i x y := by
  intro F n Rv T M G C H locs ls hw hs hv hm hP hD hS hl
  exact law_t745 hL hfl C0 htA hn9 hK hi hx9 hy (ih hi) hw hs hv hm hP hD hS hl

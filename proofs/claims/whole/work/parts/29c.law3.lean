/-! the law's cases -/
set_option maxHeartbeats 4000000 in
set_option maxRecDepth 100000 in
theorem law_c8 {p9 : Program} {l : Launch} {e9 : Env} {s : State} {m9 : MethodId} {below : List Frame} {meth : Method} {c9 : Code} {b L : Nat} {xs : Nat → Int32} (hL : L ≤ 2048) (hfl : l.stackTraces = false) (C0 : lw_At p9 s m9 meth c9 b L xs) (ht : tB s) (hn9 : nC s) {D : va_G} {qx qm : Nat → Nat} {qo : Nat} {cI cZ cL : ClassId} (hK : va_K D vwCl (tIZL cI cZ cL) s) {i : Nat} (hi : i + 4 ≤ L) {F : Nat → Nat → Int32} {n : Nat} (hw : WF F n) (hs : SY F) {Rx Rm : Nat → Int32} {th : Int32} {o : Nat → Int64} {H : Heap} {locs : List Loc} {ls : Array Slot} (hP : va_P D vwCl (wAll qx F n Rx qo o qm F n Rm th cI cZ cL) H) (hD : va_D (aL s) (wAll qx F n Rx qo o qm F n Rm th cI cZ cL)) (hS : va_S (aL s) s.heap H locs) (hl : lv_has ls 7 [(4, .int (nI i)), (0, .ref b), (1, .ref (qx 9)), (2, .ref (qm 9)), (3, .ref qo)]) (ih : law_next p9 l e9 s m9 below meth c9 b D qx qm qo cI cZ cL (i + 4)) : W p9 l e9 room_1 s m9 #[Value.ref b] below meth c9 H locs (21 + 2 * i) (462 + 8 * i) (lw_Z below #[Value.ref b] s) (F0 m9 676 ls []) := by
  obtain ⟨hx, hb, hr, hml, hown0, hts0, hX, hbl, hlocks, hgv⟩ := id C0
  have hown : s.vm.findClass RL = some m9.cls := hown0
  have hts : ∀ w ∈ wsL_law, w.before #[Value.ref b] s = true := fun w h => hts0 w (wsL_law_in w h)
  have hbA : ¬ aL s b := Nat.not_le.mpr hbl
  refine lv_aload_n hx hb dL_law_676 rfl (lv_at hl 2 rfl) ?_
  refine lv_aload_n hx hb dL_law_677 rfl (lv_at hl 1 rfl) ?_
  refine lv_iload hx hb dL_law_678 (lv_at hl 0 rfl) ?_
  refine lv_iconst (v := 1) hx hb dL_law_680 (by decide) ?_
  refine lv_iadd hx hb (x := (nI i)) (y := 1) dL_law_681 ?_
  refine W.eq (g2 := F0 m9 682 ls (.int (nI (i + 1)) :: [.ref b, .ref (qx 9)])) (congrArg (fun z => F0 m9 682 ls (Value.int z :: [.ref b, .ref (qx 9)])) (nI_add i 1)) ?_
  refine xsld hx hb hX hbl hbA hS (k := (i + 1)) (by omega) (by omega) dL_law_682 ?_
  refine lv_aload_n hx hb dL_law_683 rfl (lv_at hl 4 rfl) ?_
  refine l_S (As := [.ref (qx 9), .int (xs (i + 1)), .ref qo]) (rest := []) (wr := wM qm F (nI n) Rm th cI cZ) ⟨hx, hb, hml, hown, hts⟩ (c_L_placeOf l hfl D qx F n Rx qo o cI cZ cL _ (xs (i + 1)) hw) (vx_cwSW 3 hts gL_law_L_placeOf rfl rfl rfl (by decide +kernel) ⟨Nat.le_of_ble_eq_true rfl, Nat.le_of_ble_eq_true rfl⟩) hn9 ht hK hP hD [0, 1, 2, 3, 4, 5, 6, 7, 8, 9, 10] [11, 12, 13, 14, 15, 16, 17, 18, 19, 20] rfl rfl (by decide) rfl (by decide) (by decide) hS rfl hl.1 rfl (Nat.le_of_ble_eq_true rfl) dL_law_684 ⟨by show _ ≤ 647008; omega, by show _ ≤ 7155079; omega⟩ (fun r8 u8 H locs h8 hP hD hS => ?_)
  obtain ⟨rfl, h8b⟩ := h8
  have hP : va_P D vwCl (wAll qx F n Rx qo u8 qm F n Rm th cI cZ cL) H := hP.sub [10, 11, 12, 13, 14, 15, 16, 17, 18, 19, 20, 0, 1, 2, 3, 4, 5, 6, 7, 8, 9] rfl
  have hD : va_D (aL s) (wAll qx F n Rx qo u8 qm F n Rm th cI cZ cL) := hD.sub [10, 11, 12, 13, 14, 15, 16, 17, 18, 19, 20, 0, 1, 2, 3, 4, 5, 6, 7, 8, 9] (by decide) rfl
  refine lv_istore (lv' := [(5, .int (th1 n (xs (i + 1)))), (4, .int (nI i)), (0, .ref b), (1, .ref (qx 9)), (2, .ref (qm 9)), (3, .ref qo)]) hx hb dL_law_687 hl (by decide) rfl (fun ls hl => ?_)
  refine lv_aload_n hx hb dL_law_689 rfl (lv_at hl 4 rfl) ?_
  refine lv_aload_n hx hb dL_law_690 rfl (lv_at hl 2 rfl) ?_
  refine lv_iload hx hb dL_law_691 (lv_at hl 1 rfl) ?_
  refine lv_iconst (v := 1) hx hb dL_law_693 (by decide) ?_
  refine lv_iadd hx hb (x := (nI i)) (y := 1) dL_law_694 ?_
  refine W.eq (g2 := F0 m9 695 ls (.int (nI (i + 1)) :: [.ref b, .ref (qm 9)])) (congrArg (fun z => F0 m9 695 ls (Value.int z :: [.ref b, .ref (qm 9)])) (nI_add i 1)) ?_
  refine xsld hx hb hX hbl hbA hS (k := (i + 1)) (by omega) (by omega) dL_law_695 ?_
  refine wr_V (As := [.int (xs (i + 1))]) (rest := []) (wr := (wXo qx F (nI n) Rx qo u8 cI cZ cL)) ⟨hx, hb, hml, hown, hts⟩ (c_X1_placeOf l D qm F n Rm th cI cZ _ (xs (i + 1)) hw) (cwV 1 hts gL_law_X1_placeOf rfl rfl rfl (by decide +kernel) ⟨Nat.le_of_ble_eq_true rfl, Nat.le_of_ble_eq_true rfl⟩) (hK.sub [0, 1] rfl) hP hD (fun q h => h) [11, 12, 13, 14, 15, 16, 17, 18, 19, 20] [0, 1, 2, 3, 4, 5, 6, 7, 8, 9, 10] rfl rfl (by decide) rfl (by decide) (by decide) (va_recv hK hP (ci := 1) (q0 := 11) rfl rfl) hS rfl hl.1 rfl (Nat.le_of_ble_eq_true rfl) dL_law_696 ⟨by show _ ≤ 647008; omega, by show _ ≤ 7155079; omega⟩ (fun r9 u9 H locs h9 hP hD hS => ?_)
  obtain ⟨rfl, h9b⟩ := h9
  have hP : va_P D vwCl (wAll qx F n Rx qo u8 qm F n Rm (th1 n (xs (i + 1))) cI cZ cL) H := hP
  have hD : va_D (aL s) (wAll qx F n Rx qo u8 qm F n Rm (th1 n (xs (i + 1))) cI cZ cL) := hD
  refine lv_istore (lv' := [(6, .int r9), (5, .int (th1 n (xs (i + 1)))), (4, .int (nI i)), (0, .ref b), (1, .ref (qx 9)), (2, .ref (qm 9)), (3, .ref qo)]) hx hb dL_law_699 hl (by decide) rfl (fun ls hl => ?_)
  refine lv_aload_n hx hb dL_law_701 rfl (lv_at hl 5 rfl) ?_
  refine ro_V (As := []) (rest := []) ⟨hx, hb, hml, hown, hts⟩ (c_X1_thrown l D qm F n Rm (th1 n (xs (i + 1))) cI cZ) (cwV 0 hts gL_law_X1_thrown rfl rfl rfl (by decide +kernel) ⟨Nat.le_of_ble_eq_true rfl, Nat.le_of_ble_eq_true rfl⟩) (hK.sub [0, 1] rfl) hP (hP.sub [11, 12, 13, 14, 15, 16, 17, 18, 19, 20] rfl) (va_recv hK hP (ci := 1) (q0 := 11) rfl rfl) hS rfl hl.1 rfl (Nat.le_of_ble_eq_true rfl) dL_law_702 ⟨by show _ ≤ 647008; omega, by show _ ≤ 7155079; omega⟩ (fun r H locs hr9 hP hS => ?_)
  subst hr9
  refine lv_iload hx hb dL_law_705 (lv_at hl 1 rfl) ?_
  refine lv_icmp_eq (x := (th1 n (xs (i + 1)))) (y := (th1 n (xs (i + 1)))) (tgt := 712) hx hb dL_law_707 (by decide) (fun c_707 => ?_) (fun c_707 => absurd rfl c_707)
  refine lv_iload hx hb dL_law_712 (lv_at hl 1 rfl) ?_
  refine lv_if_ne (x := (th1 n (xs (i + 1)))) (tgt := 729) hx hb dL_law_714 (by decide) (fun c_714 => ?_) (fun c_714 => ?_)
  · skip
    refine lv_goto (tgt := 1303) hx hb dL_law_729 (by decide) ?_
    refine lv_iinc (v := (nI (i + 4))) (lv' := [(4, .int (nI (i + 4))), (6, .int r9), (5, .int (th1 n (xs (i + 1)))), (0, .ref b), (1, .ref (qx 9)), (2, .ref (qm 9)), (3, .ref qo)]) hx hb dL_law_1303 hl (k := 2) rfl (nI_add i 4) (by decide) rfl (fun ls hl => ?_)
    refine lv_goto (tgt := 23) hx hb dL_law_1306 (by decide) ?_
    refine W.widen (k := 21 + 2 * (i + 4)) (n := 462 + 8 * (i + 4)) (by omega) (by omega) ?_
    exact ih F n _ _ _ _ _ _ _ hw hs hP hD hS (lv_sub hl [0, 3, 4, 5, 6] rfl)
  · have e8 := h8b c_714
    have e9 := h9b c_714
    subst e9
    refine lv_aload_n hx hb dL_law_717 rfl (lv_at hl 6 rfl) ?_
    refine lv_iconst (v := 0) hx hb dL_law_718 (by decide) ?_
    refine va_lald hx hb hK hP 10 2 rfl rfl (i := 0) in_01 dL_law_719 ?_
    refine lv_iload hx hb dL_law_720 (lv_at hl 0 rfl) ?_
    refine lv_i2l hx hb dL_law_722 rfl ?_
    refine W.lcmp hx hb dL_law_723 ?_
    refine W.eq (g2 := F0 m9 724 ls (.int 0 :: [])) (congrArg (fun z => F0 m9 724 ls (Value.int z :: [])) (lg_eq (e8.trans (congrArg Int32.toInt64 rfl)))) ?_
    refine lv_if_eq (x := 0) (tgt := 729) hx hb dL_law_724 (by decide) (fun _ => ?_) (fun k => absurd (by decide) k)
    refine lv_goto (tgt := 1303) hx hb dL_law_729 (by decide) ?_
    refine lv_iinc (v := (nI (i + 4))) (lv' := [(4, .int (nI (i + 4))), (6, .int (F 7 (gi (xs (i + 1))))), (5, .int (th1 n (xs (i + 1)))), (0, .ref b), (1, .ref (qx 9)), (2, .ref (qm 9)), (3, .ref qo)]) hx hb dL_law_1303 hl (k := 2) rfl (nI_add i 4) (by decide) rfl (fun ls hl => ?_)
    refine lv_goto (tgt := 23) hx hb dL_law_1306 (by decide) ?_
    refine W.widen (k := 21 + 2 * (i + 4)) (n := 462 + 8 * (i + 4)) (by omega) (by omega) ?_
    exact ih F n _ _ _ _ _ _ _ hw hs hP hD hS (lv_sub hl [0, 3, 4, 5, 6] rfl)
set_option maxHeartbeats 4000000 in
set_option maxRecDepth 100000 in
theorem law_c9 {p9 : Program} {l : Launch} {e9 : Env} {s : State} {m9 : MethodId} {below : List Frame} {meth : Method} {c9 : Code} {b L : Nat} {xs : Nat → Int32} (hL : L ≤ 2048) (hfl : l.stackTraces = false) (C0 : lw_At p9 s m9 meth c9 b L xs) (ht : tB s) (hn9 : nC s) {D : va_G} {qx qm : Nat → Nat} {qo : Nat} {cI cZ cL : ClassId} (hK : va_K D vwCl (tIZL cI cZ cL) s) {i : Nat} (hi : i + 4 ≤ L) {F : Nat → Nat → Int32} {n : Nat} (hw : WF F n) (hs : SY F) {Rx Rm : Nat → Int32} {th : Int32} {o : Nat → Int64} {H : Heap} {locs : List Loc} {ls : Array Slot} (hP : va_P D vwCl (wAll qx F n Rx qo o qm F n Rm th cI cZ cL) H) (hD : va_D (aL s) (wAll qx F n Rx qo o qm F n Rm th cI cZ cL)) (hS : va_S (aL s) s.heap H locs) (hl : lv_has ls 7 [(4, .int (nI i)), (0, .ref b), (1, .ref (qx 9)), (2, .ref (qm 9)), (3, .ref qo)]) (ih : law_next p9 l e9 s m9 below meth c9 b D qx qm qo cI cZ cL (i + 4)) : W p9 l e9 room_1 s m9 #[Value.ref b] below meth c9 H locs (21 + 2 * i) (462 + 8 * i) (lw_Z below #[Value.ref b] s) (F0 m9 732 ls []) := by
  obtain ⟨hx, hb, hr, hml, hown0, hts0, hX, hbl, hlocks, hgv⟩ := id C0
  have hown : s.vm.findClass RL = some m9.cls := hown0
  have hts : ∀ w ∈ wsL_law, w.before #[Value.ref b] s = true := fun w h => hts0 w (wsL_law_in w h)
  have hbA : ¬ aL s b := Nat.not_le.mpr hbl
  refine lv_aload_n hx hb dL_law_732 rfl (lv_at hl 2 rfl) ?_
  refine lv_aload_n hx hb dL_law_733 rfl (lv_at hl 1 rfl) ?_
  refine lv_iload hx hb dL_law_734 (lv_at hl 0 rfl) ?_
  refine lv_iconst (v := 1) hx hb dL_law_736 (by decide) ?_
  refine lv_iadd hx hb (x := (nI i)) (y := 1) dL_law_737 ?_
  refine W.eq (g2 := F0 m9 738 ls (.int (nI (i + 1)) :: [.ref b, .ref (qx 9)])) (congrArg (fun z => F0 m9 738 ls (Value.int z :: [.ref b, .ref (qx 9)])) (nI_add i 1)) ?_
  refine xsld hx hb hX hbl hbA hS (k := (i + 1)) (by omega) (by omega) dL_law_738 ?_
  refine lv_aload_n hx hb dL_law_739 rfl (lv_at hl 4 rfl) ?_
  refine l_S (As := [.ref (qx 9), .int (xs (i + 1)), .ref qo]) (rest := []) (wr := wM qm F (nI n) Rm th cI cZ) ⟨hx, hb, hml, hown, hts⟩ (c_L_isLimited l hfl D qx F n Rx qo o cI cZ cL _ (xs (i + 1)) hw) (vx_cwSW 3 hts gL_law_L_isLimited rfl rfl rfl (by decide +kernel) ⟨Nat.le_of_ble_eq_true rfl, Nat.le_of_ble_eq_true rfl⟩) hn9 ht hK hP hD [0, 1, 2, 3, 4, 5, 6, 7, 8, 9, 10] [11, 12, 13, 14, 15, 16, 17, 18, 19, 20] rfl rfl (by decide) rfl (by decide) (by decide) hS rfl hl.1 rfl (Nat.le_of_ble_eq_true rfl) dL_law_740 ⟨by show _ ≤ 647008; omega, by show _ ≤ 7155079; omega⟩ (fun r8 u8 H locs h8 hP hD hS => ?_)
  obtain ⟨rfl, h8b⟩ := h8
  have hP : va_P D vwCl (wAll qx F n Rx qo u8 qm F n Rm th cI cZ cL) H := hP.sub [10, 11, 12, 13, 14, 15, 16, 17, 18, 19, 20, 0, 1, 2, 3, 4, 5, 6, 7, 8, 9] rfl
  have hD : va_D (aL s) (wAll qx F n Rx qo u8 qm F n Rm th cI cZ cL) := hD.sub [10, 11, 12, 13, 14, 15, 16, 17, 18, 19, 20, 0, 1, 2, 3, 4, 5, 6, 7, 8, 9] (by decide) rfl
  refine lv_istore (lv' := [(5, .int (th1 n (xs (i + 1)))), (4, .int (nI i)), (0, .ref b), (1, .ref (qx 9)), (2, .ref (qm 9)), (3, .ref qo)]) hx hb dL_law_743 hl (by decide) rfl (fun ls hl => ?_)
  refine lv_aload_n hx hb dL_law_745 rfl (lv_at hl 4 rfl) ?_
  refine lv_aload_n hx hb dL_law_746 rfl (lv_at hl 2 rfl) ?_
  refine lv_iload hx hb dL_law_747 (lv_at hl 1 rfl) ?_
  refine lv_iconst (v := 1) hx hb dL_law_749 (by decide) ?_
  refine lv_iadd hx hb (x := (nI i)) (y := 1) dL_law_750 ?_
  refine W.eq (g2 := F0 m9 751 ls (.int (nI (i + 1)) :: [.ref b, .ref (qm 9)])) (congrArg (fun z => F0 m9 751 ls (Value.int z :: [.ref b, .ref (qm 9)])) (nI_add i 1)) ?_
  refine xsld hx hb hX hbl hbA hS (k := (i + 1)) (by omega) (by omega) dL_law_751 ?_
  refine wr_V (As := [.int (xs (i + 1))]) (rest := []) (wr := (wXo qx F (nI n) Rx qo u8 cI cZ cL)) ⟨hx, hb, hml, hown, hts⟩ (c_X1_isLimited l D qm F n Rm th cI cZ _ (xs (i + 1)) hw) (cwV 1 hts gL_law_X1_isLimited rfl rfl rfl (by decide +kernel) ⟨Nat.le_of_ble_eq_true rfl, Nat.le_of_ble_eq_true rfl⟩) (hK.sub [0, 1] rfl) hP hD (fun q h => h) [11, 12, 13, 14, 15, 16, 17, 18, 19, 20] [0, 1, 2, 3, 4, 5, 6, 7, 8, 9, 10] rfl rfl (by decide) rfl (by decide) (by decide) (va_recv hK hP (ci := 1) (q0 := 11) rfl rfl) hS rfl hl.1 rfl (Nat.le_of_ble_eq_true rfl) dL_law_752 ⟨by show _ ≤ 647008; omega, by show _ ≤ 7155079; omega⟩ (fun r9 u9 H locs h9 hP hD hS => ?_)
  obtain ⟨rfl, h9b⟩ := h9
  have hP : va_P D vwCl (wAll qx F n Rx qo u8 qm F n Rm (th1 n (xs (i + 1))) cI cZ cL) H := hP
  have hD : va_D (aL s) (wAll qx F n Rx qo u8 qm F n Rm (th1 n (xs (i + 1))) cI cZ cL) := hD
  refine lv_istore (lv' := [(6, .int r9), (5, .int (th1 n (xs (i + 1)))), (4, .int (nI i)), (0, .ref b), (1, .ref (qx 9)), (2, .ref (qm 9)), (3, .ref qo)]) hx hb dL_law_755 hl (by decide) rfl (fun ls hl => ?_)
  refine lv_aload_n hx hb dL_law_757 rfl (lv_at hl 5 rfl) ?_
  refine ro_V (As := []) (rest := []) ⟨hx, hb, hml, hown, hts⟩ (c_X1_thrown l D qm F n Rm (th1 n (xs (i + 1))) cI cZ) (cwV 0 hts gL_law_X1_thrown rfl rfl rfl (by decide +kernel) ⟨Nat.le_of_ble_eq_true rfl, Nat.le_of_ble_eq_true rfl⟩) (hK.sub [0, 1] rfl) hP (hP.sub [11, 12, 13, 14, 15, 16, 17, 18, 19, 20] rfl) (va_recv hK hP (ci := 1) (q0 := 11) rfl rfl) hS rfl hl.1 rfl (Nat.le_of_ble_eq_true rfl) dL_law_758 ⟨by show _ ≤ 647008; omega, by show _ ≤ 7155079; omega⟩ (fun r H locs hr9 hP hS => ?_)
  subst hr9
  refine lv_iload hx hb dL_law_761 (lv_at hl 1 rfl) ?_
  refine lv_icmp_eq (x := (th1 n (xs (i + 1)))) (y := (th1 n (xs (i + 1)))) (tgt := 768) hx hb dL_law_763 (by decide) (fun c_763 => ?_) (fun c_763 => absurd rfl c_763)
  refine lv_iload hx hb dL_law_768 (lv_at hl 1 rfl) ?_
  refine lv_if_ne (x := (th1 n (xs (i + 1)))) (tgt := 792) hx hb dL_law_770 (by decide) (fun c_770 => ?_) (fun c_770 => ?_)
  · skip
    refine lv_goto (tgt := 1303) hx hb dL_law_792 (by decide) ?_
    refine lv_iinc (v := (nI (i + 4))) (lv' := [(4, .int (nI (i + 4))), (6, .int r9), (5, .int (th1 n (xs (i + 1)))), (0, .ref b), (1, .ref (qx 9)), (2, .ref (qm 9)), (3, .ref qo)]) hx hb dL_law_1303 hl (k := 2) rfl (nI_add i 4) (by decide) rfl (fun ls hl => ?_)
    refine lv_goto (tgt := 23) hx hb dL_law_1306 (by decide) ?_
    refine W.widen (k := 21 + 2 * (i + 4)) (n := 462 + 8 * (i + 4)) (by omega) (by omega) ?_
    exact ih F n _ _ _ _ _ _ _ hw hs hP hD hS (lv_sub hl [0, 3, 4, 5, 6] rfl)
  · have e8 := h8b c_770
    have e9 := h9b c_770
    subst e9
    refine lv_aload_n hx hb dL_law_773 rfl (lv_at hl 6 rfl) ?_
    refine lv_iconst (v := 0) hx hb dL_law_774 (by decide) ?_
    refine va_lald hx hb hK hP 10 2 rfl rfl (i := 0) in_01 dL_law_775 ?_
    refine lv_iload hx hb dL_law_776 (lv_at hl 0 rfl) ?_
    refine lv_if_eq (x := (bi (sLim F (gi (xs (i + 1)))))) (tgt := 785) hx hb dL_law_778 (by decide) (fun c_778 => ?_) (fun c_778 => ?_)
    · have c_778 := bi_e0.mp c_778
      refine lv_lconst (v := 0) hx hb dL_law_785 rfl ?_
      refine W.lcmp hx hb dL_law_786 ?_
      refine W.eq (g2 := F0 m9 787 ls (.int 0 :: [])) (congrArg (fun z => F0 m9 787 ls (Value.int z :: [])) (lg_eq (e8.trans (l01_f ((rfl).trans c_778))))) ?_
      refine lv_if_eq (x := 0) (tgt := 792) hx hb dL_law_787 (by decide) (fun _ => ?_) (fun k => absurd (by decide) k)
      refine lv_goto (tgt := 1303) hx hb dL_law_792 (by decide) ?_
      refine lv_iinc (v := (nI (i + 4))) (lv' := [(4, .int (nI (i + 4))), (6, .int (bi (sLim F (gi (xs (i + 1)))))), (5, .int (th1 n (xs (i + 1)))), (0, .ref b), (1, .ref (qx 9)), (2, .ref (qm 9)), (3, .ref qo)]) hx hb dL_law_1303 hl (k := 2) rfl (nI_add i 4) (by decide) rfl (fun ls hl => ?_)
      refine lv_goto (tgt := 23) hx hb dL_law_1306 (by decide) ?_
      refine W.widen (k := 21 + 2 * (i + 4)) (n := 462 + 8 * (i + 4)) (by omega) (by omega) ?_
      exact ih F n _ _ _ _ _ _ _ hw hs hP hD hS (lv_sub hl [0, 3, 4, 5, 6] rfl)
    · have c_778 := bi_n0.mp c_778
      refine lv_lconst (v := 1) hx hb dL_law_781 rfl ?_
      refine lv_goto (tgt := 786) hx hb dL_law_782 (by decide) ?_
      refine W.lcmp hx hb dL_law_786 ?_
      refine W.eq (g2 := F0 m9 787 ls (.int 0 :: [])) (congrArg (fun z => F0 m9 787 ls (Value.int z :: [])) (lg_eq (e8.trans (l01_t ((rfl).trans c_778))))) ?_
      refine lv_if_eq (x := 0) (tgt := 792) hx hb dL_law_787 (by decide) (fun _ => ?_) (fun k => absurd (by decide) k)
      refine lv_goto (tgt := 1303) hx hb dL_law_792 (by decide) ?_
      refine lv_iinc (v := (nI (i + 4))) (lv' := [(4, .int (nI (i + 4))), (6, .int (bi (sLim F (gi (xs (i + 1)))))), (5, .int (th1 n (xs (i + 1)))), (0, .ref b), (1, .ref (qx 9)), (2, .ref (qm 9)), (3, .ref qo)]) hx hb dL_law_1303 hl (k := 2) rfl (nI_add i 4) (by decide) rfl (fun ls hl => ?_)
      refine lv_goto (tgt := 23) hx hb dL_law_1306 (by decide) ?_
      refine W.widen (k := 21 + 2 * (i + 4)) (n := 462 + 8 * (i + 4)) (by omega) (by omega) ?_
      exact ih F n _ _ _ _ _ _ _ hw hs hP hD hS (lv_sub hl [0, 3, 4, 5, 6] rfl)
set_option maxHeartbeats 4000000 in
set_option maxRecDepth 100000 in
theorem law_c10 {p9 : Program} {l : Launch} {e9 : Env} {s : State} {m9 : MethodId} {below : List Frame} {meth : Method} {c9 : Code} {b L : Nat} {xs : Nat → Int32} (hL : L ≤ 2048) (hfl : l.stackTraces = false) (C0 : lw_At p9 s m9 meth c9 b L xs) (ht : tB s) (hn9 : nC s) {D : va_G} {qx qm : Nat → Nat} {qo : Nat} {cI cZ cL : ClassId} (hK : va_K D vwCl (tIZL cI cZ cL) s) {i : Nat} (hi : i + 4 ≤ L) {F : Nat → Nat → Int32} {n : Nat} (hw : WF F n) (hs : SY F) {Rx Rm : Nat → Int32} {th : Int32} {o : Nat → Int64} {H : Heap} {locs : List Loc} {ls : Array Slot} (hP : va_P D vwCl (wAll qx F n Rx qo o qm F n Rm th cI cZ cL) H) (hD : va_D (aL s) (wAll qx F n Rx qo o qm F n Rm th cI cZ cL)) (hS : va_S (aL s) s.heap H locs) (hl : lv_has ls 7 [(4, .int (nI i)), (0, .ref b), (1, .ref (qx 9)), (2, .ref (qm 9)), (3, .ref qo)]) (ih : law_next p9 l e9 s m9 below meth c9 b D qx qm qo cI cZ cL (i + 4)) : W p9 l e9 room_1 s m9 #[Value.ref b] below meth c9 H locs (21 + 2 * i) (462 + 8 * i) (lw_Z below #[Value.ref b] s) (F0 m9 795 ls []) := by
  obtain ⟨hx, hb, hr, hml, hown0, hts0, hX, hbl, hlocks, hgv⟩ := id C0
  have hown : s.vm.findClass RL = some m9.cls := hown0
  have hts : ∀ w ∈ wsL_law, w.before #[Value.ref b] s = true := fun w h => hts0 w (wsL_law_in w h)
  have hbA : ¬ aL s b := Nat.not_le.mpr hbl
  refine lv_aload_n hx hb dL_law_795 rfl (lv_at hl 2 rfl) ?_
  refine lv_aload_n hx hb dL_law_796 rfl (lv_at hl 1 rfl) ?_
  refine lv_iload hx hb dL_law_797 (lv_at hl 0 rfl) ?_
  refine lv_iconst (v := 1) hx hb dL_law_799 (by decide) ?_
  refine lv_iadd hx hb (x := (nI i)) (y := 1) dL_law_800 ?_
  refine W.eq (g2 := F0 m9 801 ls (.int (nI (i + 1)) :: [.ref b, .ref (qx 9)])) (congrArg (fun z => F0 m9 801 ls (Value.int z :: [.ref b, .ref (qx 9)])) (nI_add i 1)) ?_
  refine xsld hx hb hX hbl hbA hS (k := (i + 1)) (by omega) (by omega) dL_law_801 ?_
  refine lv_aload_n hx hb dL_law_802 rfl (lv_at hl 4 rfl) ?_
  refine l_S (As := [.ref (qx 9), .int (xs (i + 1)), .ref qo]) (rest := []) (wr := wM qm F (nI n) Rm th cI cZ) ⟨hx, hb, hml, hown, hts⟩ (c_L_isExcepted l hfl D qx F n Rx qo o cI cZ cL _ (xs (i + 1)) hw) (vx_cwSW 3 hts gL_law_L_isExcepted rfl rfl rfl (by decide +kernel) ⟨Nat.le_of_ble_eq_true rfl, Nat.le_of_ble_eq_true rfl⟩) hn9 ht hK hP hD [0, 1, 2, 3, 4, 5, 6, 7, 8, 9, 10] [11, 12, 13, 14, 15, 16, 17, 18, 19, 20] rfl rfl (by decide) rfl (by decide) (by decide) hS rfl hl.1 rfl (Nat.le_of_ble_eq_true rfl) dL_law_803 ⟨by show _ ≤ 647008; omega, by show _ ≤ 7155079; omega⟩ (fun r8 u8 H locs h8 hP hD hS => ?_)
  obtain ⟨rfl, h8b⟩ := h8
  have hP : va_P D vwCl (wAll qx F n Rx qo u8 qm F n Rm th cI cZ cL) H := hP.sub [10, 11, 12, 13, 14, 15, 16, 17, 18, 19, 20, 0, 1, 2, 3, 4, 5, 6, 7, 8, 9] rfl
  have hD : va_D (aL s) (wAll qx F n Rx qo u8 qm F n Rm th cI cZ cL) := hD.sub [10, 11, 12, 13, 14, 15, 16, 17, 18, 19, 20, 0, 1, 2, 3, 4, 5, 6, 7, 8, 9] (by decide) rfl
  refine lv_istore (lv' := [(5, .int (th1 n (xs (i + 1)))), (4, .int (nI i)), (0, .ref b), (1, .ref (qx 9)), (2, .ref (qm 9)), (3, .ref qo)]) hx hb dL_law_806 hl (by decide) rfl (fun ls hl => ?_)
  refine lv_aload_n hx hb dL_law_808 rfl (lv_at hl 4 rfl) ?_
  refine lv_aload_n hx hb dL_law_809 rfl (lv_at hl 2 rfl) ?_
  refine lv_iload hx hb dL_law_810 (lv_at hl 1 rfl) ?_
  refine lv_iconst (v := 1) hx hb dL_law_812 (by decide) ?_
  refine lv_iadd hx hb (x := (nI i)) (y := 1) dL_law_813 ?_
  refine W.eq (g2 := F0 m9 814 ls (.int (nI (i + 1)) :: [.ref b, .ref (qm 9)])) (congrArg (fun z => F0 m9 814 ls (Value.int z :: [.ref b, .ref (qm 9)])) (nI_add i 1)) ?_
  refine xsld hx hb hX hbl hbA hS (k := (i + 1)) (by omega) (by omega) dL_law_814 ?_
  refine wr_V (As := [.int (xs (i + 1))]) (rest := []) (wr := (wXo qx F (nI n) Rx qo u8 cI cZ cL)) ⟨hx, hb, hml, hown, hts⟩ (c_X1_isExcepted l D qm F n Rm th cI cZ _ (xs (i + 1)) hw) (cwV 1 hts gL_law_X1_isExcepted rfl rfl rfl (by decide +kernel) ⟨Nat.le_of_ble_eq_true rfl, Nat.le_of_ble_eq_true rfl⟩) (hK.sub [0, 1] rfl) hP hD (fun q h => h) [11, 12, 13, 14, 15, 16, 17, 18, 19, 20] [0, 1, 2, 3, 4, 5, 6, 7, 8, 9, 10] rfl rfl (by decide) rfl (by decide) (by decide) (va_recv hK hP (ci := 1) (q0 := 11) rfl rfl) hS rfl hl.1 rfl (Nat.le_of_ble_eq_true rfl) dL_law_815 ⟨by show _ ≤ 647008; omega, by show _ ≤ 7155079; omega⟩ (fun r9 u9 H locs h9 hP hD hS => ?_)
  obtain ⟨rfl, h9b⟩ := h9
  have hP : va_P D vwCl (wAll qx F n Rx qo u8 qm F n Rm (th1 n (xs (i + 1))) cI cZ cL) H := hP
  have hD : va_D (aL s) (wAll qx F n Rx qo u8 qm F n Rm (th1 n (xs (i + 1))) cI cZ cL) := hD
  refine lv_istore (lv' := [(6, .int r9), (5, .int (th1 n (xs (i + 1)))), (4, .int (nI i)), (0, .ref b), (1, .ref (qx 9)), (2, .ref (qm 9)), (3, .ref qo)]) hx hb dL_law_818 hl (by decide) rfl (fun ls hl => ?_)
  refine lv_aload_n hx hb dL_law_820 rfl (lv_at hl 5 rfl) ?_
  refine ro_V (As := []) (rest := []) ⟨hx, hb, hml, hown, hts⟩ (c_X1_thrown l D qm F n Rm (th1 n (xs (i + 1))) cI cZ) (cwV 0 hts gL_law_X1_thrown rfl rfl rfl (by decide +kernel) ⟨Nat.le_of_ble_eq_true rfl, Nat.le_of_ble_eq_true rfl⟩) (hK.sub [0, 1] rfl) hP (hP.sub [11, 12, 13, 14, 15, 16, 17, 18, 19, 20] rfl) (va_recv hK hP (ci := 1) (q0 := 11) rfl rfl) hS rfl hl.1 rfl (Nat.le_of_ble_eq_true rfl) dL_law_821 ⟨by show _ ≤ 647008; omega, by show _ ≤ 7155079; omega⟩ (fun r H locs hr9 hP hS => ?_)
  subst hr9
  refine lv_iload hx hb dL_law_824 (lv_at hl 1 rfl) ?_
  refine lv_icmp_eq (x := (th1 n (xs (i + 1)))) (y := (th1 n (xs (i + 1)))) (tgt := 831) hx hb dL_law_826 (by decide) (fun c_826 => ?_) (fun c_826 => absurd rfl c_826)
  refine lv_iload hx hb dL_law_831 (lv_at hl 1 rfl) ?_
  refine lv_if_ne (x := (th1 n (xs (i + 1)))) (tgt := 855) hx hb dL_law_833 (by decide) (fun c_833 => ?_) (fun c_833 => ?_)
  · skip
    refine lv_goto (tgt := 1303) hx hb dL_law_855 (by decide) ?_
    refine lv_iinc (v := (nI (i + 4))) (lv' := [(4, .int (nI (i + 4))), (6, .int r9), (5, .int (th1 n (xs (i + 1)))), (0, .ref b), (1, .ref (qx 9)), (2, .ref (qm 9)), (3, .ref qo)]) hx hb dL_law_1303 hl (k := 2) rfl (nI_add i 4) (by decide) rfl (fun ls hl => ?_)
    refine lv_goto (tgt := 23) hx hb dL_law_1306 (by decide) ?_
    refine W.widen (k := 21 + 2 * (i + 4)) (n := 462 + 8 * (i + 4)) (by omega) (by omega) ?_
    exact ih F n _ _ _ _ _ _ _ hw hs hP hD hS (lv_sub hl [0, 3, 4, 5, 6] rfl)
  · have e8 := h8b c_833
    have e9 := h9b c_833
    subst e9
    refine lv_aload_n hx hb dL_law_836 rfl (lv_at hl 6 rfl) ?_
    refine lv_iconst (v := 0) hx hb dL_law_837 (by decide) ?_
    refine va_lald hx hb hK hP 10 2 rfl rfl (i := 0) in_01 dL_law_838 ?_
    refine lv_iload hx hb dL_law_839 (lv_at hl 0 rfl) ?_
    refine lv_if_eq (x := (bi (sExc F (gi (xs (i + 1)))))) (tgt := 848) hx hb dL_law_841 (by decide) (fun c_841 => ?_) (fun c_841 => ?_)
    · have c_841 := bi_e0.mp c_841
      refine lv_lconst (v := 0) hx hb dL_law_848 rfl ?_
      refine W.lcmp hx hb dL_law_849 ?_
      refine W.eq (g2 := F0 m9 850 ls (.int 0 :: [])) (congrArg (fun z => F0 m9 850 ls (Value.int z :: [])) (lg_eq (e8.trans (l01_f ((rfl).trans c_841))))) ?_
      refine lv_if_eq (x := 0) (tgt := 855) hx hb dL_law_850 (by decide) (fun _ => ?_) (fun k => absurd (by decide) k)
      refine lv_goto (tgt := 1303) hx hb dL_law_855 (by decide) ?_
      refine lv_iinc (v := (nI (i + 4))) (lv' := [(4, .int (nI (i + 4))), (6, .int (bi (sExc F (gi (xs (i + 1)))))), (5, .int (th1 n (xs (i + 1)))), (0, .ref b), (1, .ref (qx 9)), (2, .ref (qm 9)), (3, .ref qo)]) hx hb dL_law_1303 hl (k := 2) rfl (nI_add i 4) (by decide) rfl (fun ls hl => ?_)
      refine lv_goto (tgt := 23) hx hb dL_law_1306 (by decide) ?_
      refine W.widen (k := 21 + 2 * (i + 4)) (n := 462 + 8 * (i + 4)) (by omega) (by omega) ?_
      exact ih F n _ _ _ _ _ _ _ hw hs hP hD hS (lv_sub hl [0, 3, 4, 5, 6] rfl)
    · have c_841 := bi_n0.mp c_841
      refine lv_lconst (v := 1) hx hb dL_law_844 rfl ?_
      refine lv_goto (tgt := 849) hx hb dL_law_845 (by decide) ?_
      refine W.lcmp hx hb dL_law_849 ?_
      refine W.eq (g2 := F0 m9 850 ls (.int 0 :: [])) (congrArg (fun z => F0 m9 850 ls (Value.int z :: [])) (lg_eq (e8.trans (l01_t ((rfl).trans c_841))))) ?_
      refine lv_if_eq (x := 0) (tgt := 855) hx hb dL_law_850 (by decide) (fun _ => ?_) (fun k => absurd (by decide) k)
      refine lv_goto (tgt := 1303) hx hb dL_law_855 (by decide) ?_
      refine lv_iinc (v := (nI (i + 4))) (lv' := [(4, .int (nI (i + 4))), (6, .int (bi (sExc F (gi (xs (i + 1)))))), (5, .int (th1 n (xs (i + 1)))), (0, .ref b), (1, .ref (qx 9)), (2, .ref (qm 9)), (3, .ref qo)]) hx hb dL_law_1303 hl (k := 2) rfl (nI_add i 4) (by decide) rfl (fun ls hl => ?_)
      refine lv_goto (tgt := 23) hx hb dL_law_1306 (by decide) ?_
      refine W.widen (k := 21 + 2 * (i + 4)) (n := 462 + 8 * (i + 4)) (by omega) (by omega) ?_
      exact ih F n _ _ _ _ _ _ _ hw hs hP hD hS (lv_sub hl [0, 3, 4, 5, 6] rfl)
set_option maxHeartbeats 4000000 in
set_option maxRecDepth 100000 in
theorem law_c11 {p9 : Program} {l : Launch} {e9 : Env} {s : State} {m9 : MethodId} {below : List Frame} {meth : Method} {c9 : Code} {b L : Nat} {xs : Nat → Int32} (hL : L ≤ 2048) (hfl : l.stackTraces = false) (C0 : lw_At p9 s m9 meth c9 b L xs) (ht : tB s) (hn9 : nC s) {D : va_G} {qx qm : Nat → Nat} {qo : Nat} {cI cZ cL : ClassId} (hK : va_K D vwCl (tIZL cI cZ cL) s) {i : Nat} (hi : i + 4 ≤ L) {F : Nat → Nat → Int32} {n : Nat} (hw : WF F n) (hs : SY F) {Rx Rm : Nat → Int32} {th : Int32} {o : Nat → Int64} {H : Heap} {locs : List Loc} {ls : Array Slot} (hP : va_P D vwCl (wAll qx F n Rx qo o qm F n Rm th cI cZ cL) H) (hD : va_D (aL s) (wAll qx F n Rx qo o qm F n Rm th cI cZ cL)) (hS : va_S (aL s) s.heap H locs) (hl : lv_has ls 7 [(4, .int (nI i)), (0, .ref b), (1, .ref (qx 9)), (2, .ref (qm 9)), (3, .ref qo)]) (ih : law_next p9 l e9 s m9 below meth c9 b D qx qm qo cI cZ cL (i + 4)) : W p9 l e9 room_1 s m9 #[Value.ref b] below meth c9 H locs (21 + 2 * i) (462 + 8 * i) (lw_Z below #[Value.ref b] s) (F0 m9 858 ls []) := by
  obtain ⟨hx, hb, hr, hml, hown0, hts0, hX, hbl, hlocks, hgv⟩ := id C0
  have hown : s.vm.findClass RL = some m9.cls := hown0
  have hts : ∀ w ∈ wsL_law, w.before #[Value.ref b] s = true := fun w h => hts0 w (wsL_law_in w h)
  have hbA : ¬ aL s b := Nat.not_le.mpr hbl
  refine lv_aload_n hx hb dL_law_858 rfl (lv_at hl 2 rfl) ?_
  refine lv_aload_n hx hb dL_law_859 rfl (lv_at hl 1 rfl) ?_
  refine lv_iload hx hb dL_law_860 (lv_at hl 0 rfl) ?_
  refine lv_iconst (v := 1) hx hb dL_law_862 (by decide) ?_
  refine lv_iadd hx hb (x := (nI i)) (y := 1) dL_law_863 ?_
  refine W.eq (g2 := F0 m9 864 ls (.int (nI (i + 1)) :: [.ref b, .ref (qx 9)])) (congrArg (fun z => F0 m9 864 ls (Value.int z :: [.ref b, .ref (qx 9)])) (nI_add i 1)) ?_
  refine xsld hx hb hX hbl hbA hS (k := (i + 1)) (by omega) (by omega) dL_law_864 ?_
  refine lv_aload_n hx hb dL_law_865 rfl (lv_at hl 1 rfl) ?_
  refine lv_iload hx hb dL_law_866 (lv_at hl 0 rfl) ?_
  refine lv_iconst (v := 2) hx hb dL_law_868 (by decide) ?_
  refine lv_iadd hx hb (x := (nI i)) (y := 2) dL_law_869 ?_
  refine W.eq (g2 := F0 m9 870 ls (.int (nI (i + 2)) :: [.ref b, .int (xs (i + 1)), .ref (qx 9)])) (congrArg (fun z => F0 m9 870 ls (Value.int z :: [.ref b, .int (xs (i + 1)), .ref (qx 9)])) (nI_add i 2)) ?_
  refine xsld hx hb hX hbl hbA hS (k := (i + 2)) (by omega) (by omega) dL_law_870 ?_
  refine lv_aload_n hx hb dL_law_871 rfl (lv_at hl 4 rfl) ?_
  refine l_S (As := [.ref (qx 9), .int (xs (i + 1)), .int (xs (i + 2)), .ref qo]) (rest := []) (wr := wM qm F (nI n) Rm th cI cZ) ⟨hx, hb, hml, hown, hts⟩ (c_L_need l hfl D qx F n Rx qo o cI cZ cL _ (xs (i + 1)) (xs (i + 2)) hw) (vx_cwSW 4 hts gL_law_L_need rfl rfl rfl (by decide +kernel) ⟨Nat.le_of_ble_eq_true rfl, Nat.le_of_ble_eq_true rfl⟩) hn9 ht hK hP hD [0, 1, 2, 3, 4, 5, 6, 7, 8, 9, 10] [11, 12, 13, 14, 15, 16, 17, 18, 19, 20] rfl rfl (by decide) rfl (by decide) (by decide) hS rfl hl.1 rfl (Nat.le_of_ble_eq_true rfl) dL_law_872 ⟨by show _ ≤ 647008; omega, by show _ ≤ 7155079; omega⟩ (fun r8 u8 H locs h8 hP hD hS => ?_)
  obtain ⟨rfl, h8b⟩ := h8
  have hP : va_P D vwCl (wAll qx F n Rx qo u8 qm F n Rm th cI cZ cL) H := hP.sub [10, 11, 12, 13, 14, 15, 16, 17, 18, 19, 20, 0, 1, 2, 3, 4, 5, 6, 7, 8, 9] rfl
  have hD : va_D (aL s) (wAll qx F n Rx qo u8 qm F n Rm th cI cZ cL) := hD.sub [10, 11, 12, 13, 14, 15, 16, 17, 18, 19, 20, 0, 1, 2, 3, 4, 5, 6, 7, 8, 9] (by decide) rfl
  refine lv_istore (lv' := [(5, .int (th2 n (xs (i + 1)) (xs (i + 2)))), (4, .int (nI i)), (0, .ref b), (1, .ref (qx 9)), (2, .ref (qm 9)), (3, .ref qo)]) hx hb dL_law_875 hl (by decide) rfl (fun ls hl => ?_)
  refine lv_aload_n hx hb dL_law_877 rfl (lv_at hl 4 rfl) ?_
  refine lv_aload_n hx hb dL_law_878 rfl (lv_at hl 2 rfl) ?_
  refine lv_iload hx hb dL_law_879 (lv_at hl 1 rfl) ?_
  refine lv_iconst (v := 1) hx hb dL_law_881 (by decide) ?_
  refine lv_iadd hx hb (x := (nI i)) (y := 1) dL_law_882 ?_
  refine W.eq (g2 := F0 m9 883 ls (.int (nI (i + 1)) :: [.ref b, .ref (qm 9)])) (congrArg (fun z => F0 m9 883 ls (Value.int z :: [.ref b, .ref (qm 9)])) (nI_add i 1)) ?_
  refine xsld hx hb hX hbl hbA hS (k := (i + 1)) (by omega) (by omega) dL_law_883 ?_
  refine lv_aload_n hx hb dL_law_884 rfl (lv_at hl 2 rfl) ?_
  refine lv_iload hx hb dL_law_885 (lv_at hl 1 rfl) ?_
  refine lv_iconst (v := 2) hx hb dL_law_887 (by decide) ?_
  refine lv_iadd hx hb (x := (nI i)) (y := 2) dL_law_888 ?_
  refine W.eq (g2 := F0 m9 889 ls (.int (nI (i + 2)) :: [.ref b, .int (xs (i + 1)), .ref (qm 9)])) (congrArg (fun z => F0 m9 889 ls (Value.int z :: [.ref b, .int (xs (i + 1)), .ref (qm 9)])) (nI_add i 2)) ?_
  refine xsld hx hb hX hbl hbA hS (k := (i + 2)) (by omega) (by omega) dL_law_889 ?_
  refine wr_V (As := [.int (xs (i + 1)), .int (xs (i + 2))]) (rest := []) (wr := (wXo qx F (nI n) Rx qo u8 cI cZ cL)) ⟨hx, hb, hml, hown, hts⟩ (c_X1_need l D qm F n Rm th cI cZ _ (xs (i + 1)) (xs (i + 2)) hw) (cwV 2 hts gL_law_X1_need rfl rfl rfl (by decide +kernel) ⟨Nat.le_of_ble_eq_true rfl, Nat.le_of_ble_eq_true rfl⟩) (hK.sub [0, 1] rfl) hP hD (fun q h => h) [11, 12, 13, 14, 15, 16, 17, 18, 19, 20] [0, 1, 2, 3, 4, 5, 6, 7, 8, 9, 10] rfl rfl (by decide) rfl (by decide) (by decide) (va_recv hK hP (ci := 1) (q0 := 11) rfl rfl) hS rfl hl.1 rfl (Nat.le_of_ble_eq_true rfl) dL_law_890 ⟨by show _ ≤ 647008; omega, by show _ ≤ 7155079; omega⟩ (fun r9 u9 H locs h9 hP hD hS => ?_)
  obtain ⟨rfl, h9b⟩ := h9
  have hP : va_P D vwCl (wAll qx F n Rx qo u8 qm F n Rm (th2 n (xs (i + 1)) (xs (i + 2))) cI cZ cL) H := hP
  have hD : va_D (aL s) (wAll qx F n Rx qo u8 qm F n Rm (th2 n (xs (i + 1)) (xs (i + 2))) cI cZ cL) := hD
  refine lv_istore (lv' := [(6, .int r9), (5, .int (th2 n (xs (i + 1)) (xs (i + 2)))), (4, .int (nI i)), (0, .ref b), (1, .ref (qx 9)), (2, .ref (qm 9)), (3, .ref qo)]) hx hb dL_law_893 hl (by decide) rfl (fun ls hl => ?_)
  refine lv_aload_n hx hb dL_law_895 rfl (lv_at hl 5 rfl) ?_
  refine ro_V (As := []) (rest := []) ⟨hx, hb, hml, hown, hts⟩ (c_X1_thrown l D qm F n Rm (th2 n (xs (i + 1)) (xs (i + 2))) cI cZ) (cwV 0 hts gL_law_X1_thrown rfl rfl rfl (by decide +kernel) ⟨Nat.le_of_ble_eq_true rfl, Nat.le_of_ble_eq_true rfl⟩) (hK.sub [0, 1] rfl) hP (hP.sub [11, 12, 13, 14, 15, 16, 17, 18, 19, 20] rfl) (va_recv hK hP (ci := 1) (q0 := 11) rfl rfl) hS rfl hl.1 rfl (Nat.le_of_ble_eq_true rfl) dL_law_896 ⟨by show _ ≤ 647008; omega, by show _ ≤ 7155079; omega⟩ (fun r H locs hr9 hP hS => ?_)
  subst hr9
  refine lv_iload hx hb dL_law_899 (lv_at hl 1 rfl) ?_
  refine lv_icmp_eq (x := (th2 n (xs (i + 1)) (xs (i + 2)))) (y := (th2 n (xs (i + 1)) (xs (i + 2)))) (tgt := 906) hx hb dL_law_901 (by decide) (fun c_901 => ?_) (fun c_901 => absurd rfl c_901)
  refine lv_iload hx hb dL_law_906 (lv_at hl 1 rfl) ?_
  refine lv_if_ne (x := (th2 n (xs (i + 1)) (xs (i + 2)))) (tgt := 923) hx hb dL_law_908 (by decide) (fun c_908 => ?_) (fun c_908 => ?_)
  · skip
    refine lv_goto (tgt := 1303) hx hb dL_law_923 (by decide) ?_
    refine lv_iinc (v := (nI (i + 4))) (lv' := [(4, .int (nI (i + 4))), (6, .int r9), (5, .int (th2 n (xs (i + 1)) (xs (i + 2)))), (0, .ref b), (1, .ref (qx 9)), (2, .ref (qm 9)), (3, .ref qo)]) hx hb dL_law_1303 hl (k := 2) rfl (nI_add i 4) (by decide) rfl (fun ls hl => ?_)
    refine lv_goto (tgt := 23) hx hb dL_law_1306 (by decide) ?_
    refine W.widen (k := 21 + 2 * (i + 4)) (n := 462 + 8 * (i + 4)) (by omega) (by omega) ?_
    exact ih F n _ _ _ _ _ _ _ hw hs hP hD hS (lv_sub hl [0, 3, 4, 5, 6] rfl)
  · have e8 := h8b c_908
    have e9 := h9b c_908
    subst e9
    refine lv_aload_n hx hb dL_law_911 rfl (lv_at hl 6 rfl) ?_
    refine lv_iconst (v := 0) hx hb dL_law_912 (by decide) ?_
    refine va_lald hx hb hK hP 10 2 rfl rfl (i := 0) in_01 dL_law_913 ?_
    refine lv_iload hx hb dL_law_914 (lv_at hl 0 rfl) ?_
    refine lv_i2l hx hb dL_law_916 rfl ?_
    refine W.lcmp hx hb dL_law_917 ?_
    refine W.eq (g2 := F0 m9 918 ls (.int 0 :: [])) (congrArg (fun z => F0 m9 918 ls (Value.int z :: [])) (lg_eq (e8.trans (congrArg Int32.toInt64 (need_eq hw (gi_th2 hw.n c_908).1 (gi_th2 hw.n c_908).2.1))))) ?_
    refine lv_if_eq (x := 0) (tgt := 923) hx hb dL_law_918 (by decide) (fun _ => ?_) (fun k => absurd (by decide) k)
    refine lv_goto (tgt := 1303) hx hb dL_law_923 (by decide) ?_
    refine lv_iinc (v := (nI (i + 4))) (lv' := [(4, .int (nI (i + 4))), (6, .int (mNeed F (gi (xs (i + 1))) (gi (xs (i + 2))))), (5, .int (th2 n (xs (i + 1)) (xs (i + 2)))), (0, .ref b), (1, .ref (qx 9)), (2, .ref (qm 9)), (3, .ref qo)]) hx hb dL_law_1303 hl (k := 2) rfl (nI_add i 4) (by decide) rfl (fun ls hl => ?_)
    refine lv_goto (tgt := 23) hx hb dL_law_1306 (by decide) ?_
    refine W.widen (k := 21 + 2 * (i + 4)) (n := 462 + 8 * (i + 4)) (by omega) (by omega) ?_
    exact ih F n _ _ _ _ _ _ _ hw hs hP hD hS (lv_sub hl [0, 3, 4, 5, 6] rfl)

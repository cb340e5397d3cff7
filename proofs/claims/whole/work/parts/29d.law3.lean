/-! the law's cases -/
set_option maxHeartbeats 4000000 in
set_option maxRecDepth 100000 in
theorem law_c12 {p9 : Program} {l : Launch} {e9 : Env} {s : State} {m9 : MethodId} {below : List Frame} {meth : Method} {c9 : Code} {b L : Nat} {xs : Nat → Int32} (hL : L ≤ 2048) (hfl : l.stackTraces = false) (C0 : lw_At p9 s m9 meth c9 b L xs) (ht : tB s) (hn9 : nC s) {D : va_G} {qx qm : Nat → Nat} {qo : Nat} {cI cZ cL : ClassId} (hK : va_K D vwCl (tIZL cI cZ cL) s) {i : Nat} (hi : i + 4 ≤ L) {F : Nat → Nat → Int32} {n : Nat} (hw : WF F n) (hs : SY F) {Rx Rm : Nat → Int32} {th : Int32} {o : Nat → Int64} {H : Heap} {locs : List Loc} {ls : Array Slot} (hP : va_P D vwCl (wAll qx F n Rx qo o qm F n Rm th cI cZ cL) H) (hD : va_D (aL s) (wAll qx F n Rx qo o qm F n Rm th cI cZ cL)) (hS : va_S (aL s) s.heap H locs) (hl : lv_has ls 7 [(4, .int (nI i)), (0, .ref b), (1, .ref (qx 9)), (2, .ref (qm 9)), (3, .ref qo)]) (ih : law_next p9 l e9 s m9 below meth c9 b D qx qm qo cI cZ cL (i + 4)) : W p9 l e9 room_1 s m9 #[Value.ref b] below meth c9 H locs (21 + 2 * i) (462 + 8 * i) (lw_Z below #[Value.ref b] s) (F0 m9 926 ls []) := by
  obtain ⟨hx, hb, hr, hml, hown0, hts0, hX, hbl, hlocks, hgv⟩ := id C0
  have hown : s.vm.findClass RL = some m9.cls := hown0
  have hts : ∀ w ∈ wsL_law, w.before #[Value.ref b] s = true := fun w h => hts0 w (wsL_law_in w h)
  have hbA : ¬ aL s b := Nat.not_le.mpr hbl
  refine lv_aload_n hx hb dL_law_926 rfl (lv_at hl 2 rfl) ?_
  refine lv_aload_n hx hb dL_law_927 rfl (lv_at hl 1 rfl) ?_
  refine lv_iload hx hb dL_law_928 (lv_at hl 0 rfl) ?_
  refine lv_iconst (v := 1) hx hb dL_law_930 (by decide) ?_
  refine lv_iadd hx hb (x := (nI i)) (y := 1) dL_law_931 ?_
  refine W.eq (g2 := F0 m9 932 ls (.int (nI (i + 1)) :: [.ref b, .ref (qx 9)])) (congrArg (fun z => F0 m9 932 ls (Value.int z :: [.ref b, .ref (qx 9)])) (nI_add i 1)) ?_
  refine xsld hx hb hX hbl hbA hS (k := (i + 1)) (by omega) (by omega) dL_law_932 ?_
  refine lv_aload_n hx hb dL_law_933 rfl (lv_at hl 1 rfl) ?_
  refine lv_iload hx hb dL_law_934 (lv_at hl 0 rfl) ?_
  refine lv_iconst (v := 2) hx hb dL_law_936 (by decide) ?_
  refine lv_iadd hx hb (x := (nI i)) (y := 2) dL_law_937 ?_
  refine W.eq (g2 := F0 m9 938 ls (.int (nI (i + 2)) :: [.ref b, .int (xs (i + 1)), .ref (qx 9)])) (congrArg (fun z => F0 m9 938 ls (Value.int z :: [.ref b, .int (xs (i + 1)), .ref (qx 9)])) (nI_add i 2)) ?_
  refine xsld hx hb hX hbl hbA hS (k := (i + 2)) (by omega) (by omega) dL_law_938 ?_
  refine lv_aload_n hx hb dL_law_939 rfl (lv_at hl 4 rfl) ?_
  refine l_S (As := [.ref (qx 9), .int (xs (i + 1)), .int (xs (i + 2)), .ref qo]) (rest := []) (wr := wM qm F (nI n) Rm th cI cZ) ⟨hx, hb, hml, hown, hts⟩ (c_L_areInBreach l hfl D qx F n Rx qo o cI cZ cL _ (xs (i + 1)) (xs (i + 2)) hw) (vx_cwSW 4 hts gL_law_L_areInBreach rfl rfl rfl (by decide +kernel) ⟨Nat.le_of_ble_eq_true rfl, Nat.le_of_ble_eq_true rfl⟩) hn9 ht hK hP hD [0, 1, 2, 3, 4, 5, 6, 7, 8, 9, 10] [11, 12, 13, 14, 15, 16, 17, 18, 19, 20] rfl rfl (by decide) rfl (by decide) (by decide) hS rfl hl.1 rfl (Nat.le_of_ble_eq_true rfl) dL_law_940 ⟨by show _ ≤ 647008; omega, by show _ ≤ 7155079; omega⟩ (fun r8 u8 H locs h8 hP hD hS => ?_)
  obtain ⟨rfl, h8b⟩ := h8
  have hP : va_P D vwCl (wAll qx F n Rx qo u8 qm F n Rm th cI cZ cL) H := hP.sub [10, 11, 12, 13, 14, 15, 16, 17, 18, 19, 20, 0, 1, 2, 3, 4, 5, 6, 7, 8, 9] rfl
  have hD : va_D (aL s) (wAll qx F n Rx qo u8 qm F n Rm th cI cZ cL) := hD.sub [10, 11, 12, 13, 14, 15, 16, 17, 18, 19, 20, 0, 1, 2, 3, 4, 5, 6, 7, 8, 9] (by decide) rfl
  refine lv_istore (lv' := [(5, .int (th2 n (xs (i + 1)) (xs (i + 2)))), (4, .int (nI i)), (0, .ref b), (1, .ref (qx 9)), (2, .ref (qm 9)), (3, .ref qo)]) hx hb dL_law_943 hl (by decide) rfl (fun ls hl => ?_)
  refine lv_aload_n hx hb dL_law_945 rfl (lv_at hl 4 rfl) ?_
  refine lv_aload_n hx hb dL_law_946 rfl (lv_at hl 2 rfl) ?_
  refine lv_iload hx hb dL_law_947 (lv_at hl 1 rfl) ?_
  refine lv_iconst (v := 1) hx hb dL_law_949 (by decide) ?_
  refine lv_iadd hx hb (x := (nI i)) (y := 1) dL_law_950 ?_
  refine W.eq (g2 := F0 m9 951 ls (.int (nI (i + 1)) :: [.ref b, .ref (qm 9)])) (congrArg (fun z => F0 m9 951 ls (Value.int z :: [.ref b, .ref (qm 9)])) (nI_add i 1)) ?_
  refine xsld hx hb hX hbl hbA hS (k := (i + 1)) (by omega) (by omega) dL_law_951 ?_
  refine lv_aload_n hx hb dL_law_952 rfl (lv_at hl 2 rfl) ?_
  refine lv_iload hx hb dL_law_953 (lv_at hl 1 rfl) ?_
  refine lv_iconst (v := 2) hx hb dL_law_955 (by decide) ?_
  refine lv_iadd hx hb (x := (nI i)) (y := 2) dL_law_956 ?_
  refine W.eq (g2 := F0 m9 957 ls (.int (nI (i + 2)) :: [.ref b, .int (xs (i + 1)), .ref (qm 9)])) (congrArg (fun z => F0 m9 957 ls (Value.int z :: [.ref b, .int (xs (i + 1)), .ref (qm 9)])) (nI_add i 2)) ?_
  refine xsld hx hb hX hbl hbA hS (k := (i + 2)) (by omega) (by omega) dL_law_957 ?_
  refine wr_V (As := [.int (xs (i + 1)), .int (xs (i + 2))]) (rest := []) (wr := (wXo qx F (nI n) Rx qo u8 cI cZ cL)) ⟨hx, hb, hml, hown, hts⟩ (c_X1_areInBreach l D qm F n Rm th cI cZ _ (xs (i + 1)) (xs (i + 2)) hw) (cwV 2 hts gL_law_X1_areInBreach rfl rfl rfl (by decide +kernel) ⟨Nat.le_of_ble_eq_true rfl, Nat.le_of_ble_eq_true rfl⟩) (hK.sub [0, 1] rfl) hP hD (fun q h => h) [11, 12, 13, 14, 15, 16, 17, 18, 19, 20] [0, 1, 2, 3, 4, 5, 6, 7, 8, 9, 10] rfl rfl (by decide) rfl (by decide) (by decide) (va_recv hK hP (ci := 1) (q0 := 11) rfl rfl) hS rfl hl.1 rfl (Nat.le_of_ble_eq_true rfl) dL_law_958 ⟨by show _ ≤ 647008; omega, by show _ ≤ 7155079; omega⟩ (fun r9 u9 H locs h9 hP hD hS => ?_)
  obtain ⟨rfl, h9b⟩ := h9
  have hP : va_P D vwCl (wAll qx F n Rx qo u8 qm F n Rm (th2 n (xs (i + 1)) (xs (i + 2))) cI cZ cL) H := hP
  have hD : va_D (aL s) (wAll qx F n Rx qo u8 qm F n Rm (th2 n (xs (i + 1)) (xs (i + 2))) cI cZ cL) := hD
  refine lv_istore (lv' := [(6, .int r9), (5, .int (th2 n (xs (i + 1)) (xs (i + 2)))), (4, .int (nI i)), (0, .ref b), (1, .ref (qx 9)), (2, .ref (qm 9)), (3, .ref qo)]) hx hb dL_law_961 hl (by decide) rfl (fun ls hl => ?_)
  refine lv_aload_n hx hb dL_law_963 rfl (lv_at hl 5 rfl) ?_
  refine ro_V (As := []) (rest := []) ⟨hx, hb, hml, hown, hts⟩ (c_X1_thrown l D qm F n Rm (th2 n (xs (i + 1)) (xs (i + 2))) cI cZ) (cwV 0 hts gL_law_X1_thrown rfl rfl rfl (by decide +kernel) ⟨Nat.le_of_ble_eq_true rfl, Nat.le_of_ble_eq_true rfl⟩) (hK.sub [0, 1] rfl) hP (hP.sub [11, 12, 13, 14, 15, 16, 17, 18, 19, 20] rfl) (va_recv hK hP (ci := 1) (q0 := 11) rfl rfl) hS rfl hl.1 rfl (Nat.le_of_ble_eq_true rfl) dL_law_964 ⟨by show _ ≤ 647008; omega, by show _ ≤ 7155079; omega⟩ (fun r H locs hr9 hP hS => ?_)
  subst hr9
  refine lv_iload hx hb dL_law_967 (lv_at hl 1 rfl) ?_
  refine lv_icmp_eq (x := (th2 n (xs (i + 1)) (xs (i + 2)))) (y := (th2 n (xs (i + 1)) (xs (i + 2)))) (tgt := 974) hx hb dL_law_969 (by decide) (fun c_969 => ?_) (fun c_969 => absurd rfl c_969)
  refine lv_iload hx hb dL_law_974 (lv_at hl 1 rfl) ?_
  refine lv_if_ne (x := (th2 n (xs (i + 1)) (xs (i + 2)))) (tgt := 998) hx hb dL_law_976 (by decide) (fun c_976 => ?_) (fun c_976 => ?_)
  · skip
    refine lv_goto (tgt := 1303) hx hb dL_law_998 (by decide) ?_
    refine lv_iinc (v := (nI (i + 4))) (lv' := [(4, .int (nI (i + 4))), (6, .int r9), (5, .int (th2 n (xs (i + 1)) (xs (i + 2)))), (0, .ref b), (1, .ref (qx 9)), (2, .ref (qm 9)), (3, .ref qo)]) hx hb dL_law_1303 hl (k := 2) rfl (nI_add i 4) (by decide) rfl (fun ls hl => ?_)
    refine lv_goto (tgt := 23) hx hb dL_law_1306 (by decide) ?_
    refine W.widen (k := 21 + 2 * (i + 4)) (n := 462 + 8 * (i + 4)) (by omega) (by omega) ?_
    exact ih F n _ _ _ _ _ _ _ hw hs hP hD hS (lv_sub hl [0, 3, 4, 5, 6] rfl)
  · have e8 := h8b c_976
    have e9 := h9b c_976
    subst e9
    refine lv_aload_n hx hb dL_law_979 rfl (lv_at hl 6 rfl) ?_
    refine lv_iconst (v := 0) hx hb dL_law_980 (by decide) ?_
    refine va_lald hx hb hK hP 10 2 rfl rfl (i := 0) in_01 dL_law_981 ?_
    refine lv_iload hx hb dL_law_982 (lv_at hl 0 rfl) ?_
    refine lv_if_eq (x := (bi (if F 7 (gi (xs (i + 1))) = -1 then false else mFoe F (gi (xs (i + 1))) (gi (xs (i + 2))) (F 7 (gi (xs (i + 1))))))) (tgt := 991) hx hb dL_law_984 (by decide) (fun c_984 => ?_) (fun c_984 => ?_)
    · have c_984 := bi_e0.mp c_984
      refine lv_lconst (v := 0) hx hb dL_law_991 rfl ?_
      refine W.lcmp hx hb dL_law_992 ?_
      refine W.eq (g2 := F0 m9 993 ls (.int 0 :: [])) (congrArg (fun z => F0 m9 993 ls (Value.int z :: [])) (lg_eq (e8.trans (l01_f (((breach_eq hw (gi_th2 hw.n c_976).1 (gi_th2 hw.n c_976).2.1 (gi_th2 hw.n c_976).2.2)).trans c_984))))) ?_
      refine lv_if_eq (x := 0) (tgt := 998) hx hb dL_law_993 (by decide) (fun _ => ?_) (fun k => absurd (by decide) k)
      refine lv_goto (tgt := 1303) hx hb dL_law_998 (by decide) ?_
      refine lv_iinc (v := (nI (i + 4))) (lv' := [(4, .int (nI (i + 4))), (6, .int (bi (if F 7 (gi (xs (i + 1))) = -1 then false else mFoe F (gi (xs (i + 1))) (gi (xs (i + 2))) (F 7 (gi (xs (i + 1))))))), (5, .int (th2 n (xs (i + 1)) (xs (i + 2)))), (0, .ref b), (1, .ref (qx 9)), (2, .ref (qm 9)), (3, .ref qo)]) hx hb dL_law_1303 hl (k := 2) rfl (nI_add i 4) (by decide) rfl (fun ls hl => ?_)
      refine lv_goto (tgt := 23) hx hb dL_law_1306 (by decide) ?_
      refine W.widen (k := 21 + 2 * (i + 4)) (n := 462 + 8 * (i + 4)) (by omega) (by omega) ?_
      exact ih F n _ _ _ _ _ _ _ hw hs hP hD hS (lv_sub hl [0, 3, 4, 5, 6] rfl)
    · have c_984 := bi_n0.mp c_984
      refine lv_lconst (v := 1) hx hb dL_law_987 rfl ?_
      refine lv_goto (tgt := 992) hx hb dL_law_988 (by decide) ?_
      refine W.lcmp hx hb dL_law_992 ?_
      refine W.eq (g2 := F0 m9 993 ls (.int 0 :: [])) (congrArg (fun z => F0 m9 993 ls (Value.int z :: [])) (lg_eq (e8.trans (l01_t (((breach_eq hw (gi_th2 hw.n c_976).1 (gi_th2 hw.n c_976).2.1 (gi_th2 hw.n c_976).2.2)).trans c_984))))) ?_
      refine lv_if_eq (x := 0) (tgt := 998) hx hb dL_law_993 (by decide) (fun _ => ?_) (fun k => absurd (by decide) k)
      refine lv_goto (tgt := 1303) hx hb dL_law_998 (by decide) ?_
      refine lv_iinc (v := (nI (i + 4))) (lv' := [(4, .int (nI (i + 4))), (6, .int (bi (if F 7 (gi (xs (i + 1))) = -1 then false else mFoe F (gi (xs (i + 1))) (gi (xs (i + 2))) (F 7 (gi (xs (i + 1))))))), (5, .int (th2 n (xs (i + 1)) (xs (i + 2)))), (0, .ref b), (1, .ref (qx 9)), (2, .ref (qm 9)), (3, .ref qo)]) hx hb dL_law_1303 hl (k := 2) rfl (nI_add i 4) (by decide) rfl (fun ls hl => ?_)
      refine lv_goto (tgt := 23) hx hb dL_law_1306 (by decide) ?_
      refine W.widen (k := 21 + 2 * (i + 4)) (n := 462 + 8 * (i + 4)) (by omega) (by omega) ?_
      exact ih F n _ _ _ _ _ _ _ hw hs hP hD hS (lv_sub hl [0, 3, 4, 5, 6] rfl)
set_option maxHeartbeats 4000000 in
set_option maxRecDepth 100000 in
theorem law_c13 {p9 : Program} {l : Launch} {e9 : Env} {s : State} {m9 : MethodId} {below : List Frame} {meth : Method} {c9 : Code} {b L : Nat} {xs : Nat → Int32} (hL : L ≤ 2048) (hfl : l.stackTraces = false) (C0 : lw_At p9 s m9 meth c9 b L xs) (ht : tB s) (hn9 : nC s) {D : va_G} {qx qm : Nat → Nat} {qo : Nat} {cI cZ cL : ClassId} (hK : va_K D vwCl (tIZL cI cZ cL) s) {i : Nat} (hi : i + 4 ≤ L) {F : Nat → Nat → Int32} {n : Nat} (hw : WF F n) (hs : SY F) {Rx Rm : Nat → Int32} {th : Int32} {o : Nat → Int64} {H : Heap} {locs : List Loc} {ls : Array Slot} (hP : va_P D vwCl (wAll qx F n Rx qo o qm F n Rm th cI cZ cL) H) (hD : va_D (aL s) (wAll qx F n Rx qo o qm F n Rm th cI cZ cL)) (hS : va_S (aL s) s.heap H locs) (hl : lv_has ls 7 [(4, .int (nI i)), (0, .ref b), (1, .ref (qx 9)), (2, .ref (qm 9)), (3, .ref qo)]) (ih : law_next p9 l e9 s m9 below meth c9 b D qx qm qo cI cZ cL (i + 4)) : W p9 l e9 room_1 s m9 #[Value.ref b] below meth c9 H locs (21 + 2 * i) (462 + 8 * i) (lw_Z below #[Value.ref b] s) (F0 m9 1001 ls []) := by
  obtain ⟨hx, hb, hr, hml, hown0, hts0, hX, hbl, hlocks, hgv⟩ := id C0
  have hown : s.vm.findClass RL = some m9.cls := hown0
  have hts : ∀ w ∈ wsL_law, w.before #[Value.ref b] s = true := fun w h => hts0 w (wsL_law_in w h)
  have hbA : ¬ aL s b := Nat.not_le.mpr hbl
  refine lv_aload_n hx hb dL_law_1001 rfl (lv_at hl 2 rfl) ?_
  refine lv_aload_n hx hb dL_law_1002 rfl (lv_at hl 1 rfl) ?_
  refine lv_iload hx hb dL_law_1003 (lv_at hl 0 rfl) ?_
  refine lv_iconst (v := 1) hx hb dL_law_1005 (by decide) ?_
  refine lv_iadd hx hb (x := (nI i)) (y := 1) dL_law_1006 ?_
  refine W.eq (g2 := F0 m9 1007 ls (.int (nI (i + 1)) :: [.ref b, .ref (qx 9)])) (congrArg (fun z => F0 m9 1007 ls (Value.int z :: [.ref b, .ref (qx 9)])) (nI_add i 1)) ?_
  refine xsld hx hb hX hbl hbA hS (k := (i + 1)) (by omega) (by omega) dL_law_1007 ?_
  refine lv_aload_n hx hb dL_law_1008 rfl (lv_at hl 4 rfl) ?_
  refine l_S (As := [.ref (qx 9), .int (xs (i + 1)), .ref qo]) (rest := []) (wr := wM qm F (nI n) Rm th cI cZ) ⟨hx, hb, hml, hown, hts⟩ (c_L_isMisplaced l hfl D qx F n Rx qo o cI cZ cL _ (xs (i + 1)) hw) (vx_cwSW 3 hts gL_law_L_isMisplaced rfl rfl rfl (by decide +kernel) ⟨Nat.le_of_ble_eq_true rfl, Nat.le_of_ble_eq_true rfl⟩) hn9 ht hK hP hD [0, 1, 2, 3, 4, 5, 6, 7, 8, 9, 10] [11, 12, 13, 14, 15, 16, 17, 18, 19, 20] rfl rfl (by decide) rfl (by decide) (by decide) hS rfl hl.1 rfl (Nat.le_of_ble_eq_true rfl) dL_law_1009 ⟨by show _ ≤ 647008; omega, by show _ ≤ 7155079; omega⟩ (fun r8 u8 H locs h8 hP hD hS => ?_)
  obtain ⟨rfl, h8b⟩ := h8
  have hP : va_P D vwCl (wAll qx F n Rx qo u8 qm F n Rm th cI cZ cL) H := hP.sub [10, 11, 12, 13, 14, 15, 16, 17, 18, 19, 20, 0, 1, 2, 3, 4, 5, 6, 7, 8, 9] rfl
  have hD : va_D (aL s) (wAll qx F n Rx qo u8 qm F n Rm th cI cZ cL) := hD.sub [10, 11, 12, 13, 14, 15, 16, 17, 18, 19, 20, 0, 1, 2, 3, 4, 5, 6, 7, 8, 9] (by decide) rfl
  refine lv_istore (lv' := [(5, .int (th1 n (xs (i + 1)))), (4, .int (nI i)), (0, .ref b), (1, .ref (qx 9)), (2, .ref (qm 9)), (3, .ref qo)]) hx hb dL_law_1012 hl (by decide) rfl (fun ls hl => ?_)
  refine lv_aload_n hx hb dL_law_1014 rfl (lv_at hl 4 rfl) ?_
  refine lv_aload_n hx hb dL_law_1015 rfl (lv_at hl 2 rfl) ?_
  refine lv_iload hx hb dL_law_1016 (lv_at hl 1 rfl) ?_
  refine lv_iconst (v := 1) hx hb dL_law_1018 (by decide) ?_
  refine lv_iadd hx hb (x := (nI i)) (y := 1) dL_law_1019 ?_
  refine W.eq (g2 := F0 m9 1020 ls (.int (nI (i + 1)) :: [.ref b, .ref (qm 9)])) (congrArg (fun z => F0 m9 1020 ls (Value.int z :: [.ref b, .ref (qm 9)])) (nI_add i 1)) ?_
  refine xsld hx hb hX hbl hbA hS (k := (i + 1)) (by omega) (by omega) dL_law_1020 ?_
  refine wr_V (As := [.int (xs (i + 1))]) (rest := []) (wr := (wXo qx F (nI n) Rx qo u8 cI cZ cL)) ⟨hx, hb, hml, hown, hts⟩ (c_X1_isMisplaced l D qm F n Rm th cI cZ _ (xs (i + 1)) hw) (cwV 1 hts gL_law_X1_isMisplaced rfl rfl rfl (by decide +kernel) ⟨Nat.le_of_ble_eq_true rfl, Nat.le_of_ble_eq_true rfl⟩) (hK.sub [0, 1] rfl) hP hD (fun q h => h) [11, 12, 13, 14, 15, 16, 17, 18, 19, 20] [0, 1, 2, 3, 4, 5, 6, 7, 8, 9, 10] rfl rfl (by decide) rfl (by decide) (by decide) (va_recv hK hP (ci := 1) (q0 := 11) rfl rfl) hS rfl hl.1 rfl (Nat.le_of_ble_eq_true rfl) dL_law_1021 ⟨by show _ ≤ 647008; omega, by show _ ≤ 7155079; omega⟩ (fun r9 u9 H locs h9 hP hD hS => ?_)
  obtain ⟨rfl, h9b⟩ := h9
  have hP : va_P D vwCl (wAll qx F n Rx qo u8 qm F n Rm (th1 n (xs (i + 1))) cI cZ cL) H := hP
  have hD : va_D (aL s) (wAll qx F n Rx qo u8 qm F n Rm (th1 n (xs (i + 1))) cI cZ cL) := hD
  refine lv_istore (lv' := [(6, .int r9), (5, .int (th1 n (xs (i + 1)))), (4, .int (nI i)), (0, .ref b), (1, .ref (qx 9)), (2, .ref (qm 9)), (3, .ref qo)]) hx hb dL_law_1024 hl (by decide) rfl (fun ls hl => ?_)
  refine lv_aload_n hx hb dL_law_1026 rfl (lv_at hl 5 rfl) ?_
  refine ro_V (As := []) (rest := []) ⟨hx, hb, hml, hown, hts⟩ (c_X1_thrown l D qm F n Rm (th1 n (xs (i + 1))) cI cZ) (cwV 0 hts gL_law_X1_thrown rfl rfl rfl (by decide +kernel) ⟨Nat.le_of_ble_eq_true rfl, Nat.le_of_ble_eq_true rfl⟩) (hK.sub [0, 1] rfl) hP (hP.sub [11, 12, 13, 14, 15, 16, 17, 18, 19, 20] rfl) (va_recv hK hP (ci := 1) (q0 := 11) rfl rfl) hS rfl hl.1 rfl (Nat.le_of_ble_eq_true rfl) dL_law_1027 ⟨by show _ ≤ 647008; omega, by show _ ≤ 7155079; omega⟩ (fun r H locs hr9 hP hS => ?_)
  subst hr9
  refine lv_iload hx hb dL_law_1030 (lv_at hl 1 rfl) ?_
  refine lv_icmp_eq (x := (th1 n (xs (i + 1)))) (y := (th1 n (xs (i + 1)))) (tgt := 1037) hx hb dL_law_1032 (by decide) (fun c_1032 => ?_) (fun c_1032 => absurd rfl c_1032)
  refine lv_iload hx hb dL_law_1037 (lv_at hl 1 rfl) ?_
  refine lv_if_ne (x := (th1 n (xs (i + 1)))) (tgt := 1061) hx hb dL_law_1039 (by decide) (fun c_1039 => ?_) (fun c_1039 => ?_)
  · skip
    refine lv_goto (tgt := 1303) hx hb dL_law_1061 (by decide) ?_
    refine lv_iinc (v := (nI (i + 4))) (lv' := [(4, .int (nI (i + 4))), (6, .int r9), (5, .int (th1 n (xs (i + 1)))), (0, .ref b), (1, .ref (qx 9)), (2, .ref (qm 9)), (3, .ref qo)]) hx hb dL_law_1303 hl (k := 2) rfl (nI_add i 4) (by decide) rfl (fun ls hl => ?_)
    refine lv_goto (tgt := 23) hx hb dL_law_1306 (by decide) ?_
    refine W.widen (k := 21 + 2 * (i + 4)) (n := 462 + 8 * (i + 4)) (by omega) (by omega) ?_
    exact ih F n _ _ _ _ _ _ _ hw hs hP hD hS (lv_sub hl [0, 3, 4, 5, 6] rfl)
  · have e8 := h8b c_1039
    have e9 := h9b c_1039
    subst e9
    refine lv_aload_n hx hb dL_law_1042 rfl (lv_at hl 6 rfl) ?_
    refine lv_iconst (v := 0) hx hb dL_law_1043 (by decide) ?_
    refine va_lald hx hb hK hP 10 2 rfl rfl (i := 0) in_01 dL_law_1044 ?_
    refine lv_iload hx hb dL_law_1045 (lv_at hl 0 rfl) ?_
    refine lv_if_eq (x := (bi (if F 7 (gi (xs (i + 1))) = -1 then false else mWrong F (gi (xs (i + 1))) (F 7 (gi (xs (i + 1))))))) (tgt := 1054) hx hb dL_law_1047 (by decide) (fun c_1047 => ?_) (fun c_1047 => ?_)
    · have c_1047 := bi_e0.mp c_1047
      refine lv_lconst (v := 0) hx hb dL_law_1054 rfl ?_
      refine W.lcmp hx hb dL_law_1055 ?_
      refine W.eq (g2 := F0 m9 1056 ls (.int 0 :: [])) (congrArg (fun z => F0 m9 1056 ls (Value.int z :: [])) (lg_eq (e8.trans (l01_f (((mis7_eq hw (gi_th1 hw.n c_1039))).trans c_1047))))) ?_
      refine lv_if_eq (x := 0) (tgt := 1061) hx hb dL_law_1056 (by decide) (fun _ => ?_) (fun k => absurd (by decide) k)
      refine lv_goto (tgt := 1303) hx hb dL_law_1061 (by decide) ?_
      refine lv_iinc (v := (nI (i + 4))) (lv' := [(4, .int (nI (i + 4))), (6, .int (bi (if F 7 (gi (xs (i + 1))) = -1 then false else mWrong F (gi (xs (i + 1))) (F 7 (gi (xs (i + 1))))))), (5, .int (th1 n (xs (i + 1)))), (0, .ref b), (1, .ref (qx 9)), (2, .ref (qm 9)), (3, .ref qo)]) hx hb dL_law_1303 hl (k := 2) rfl (nI_add i 4) (by decide) rfl (fun ls hl => ?_)
      refine lv_goto (tgt := 23) hx hb dL_law_1306 (by decide) ?_
      refine W.widen (k := 21 + 2 * (i + 4)) (n := 462 + 8 * (i + 4)) (by omega) (by omega) ?_
      exact ih F n _ _ _ _ _ _ _ hw hs hP hD hS (lv_sub hl [0, 3, 4, 5, 6] rfl)
    · have c_1047 := bi_n0.mp c_1047
      refine lv_lconst (v := 1) hx hb dL_law_1050 rfl ?_
      refine lv_goto (tgt := 1055) hx hb dL_law_1051 (by decide) ?_
      refine W.lcmp hx hb dL_law_1055 ?_
      refine W.eq (g2 := F0 m9 1056 ls (.int 0 :: [])) (congrArg (fun z => F0 m9 1056 ls (Value.int z :: [])) (lg_eq (e8.trans (l01_t (((mis7_eq hw (gi_th1 hw.n c_1039))).trans c_1047))))) ?_
      refine lv_if_eq (x := 0) (tgt := 1061) hx hb dL_law_1056 (by decide) (fun _ => ?_) (fun k => absurd (by decide) k)
      refine lv_goto (tgt := 1303) hx hb dL_law_1061 (by decide) ?_
      refine lv_iinc (v := (nI (i + 4))) (lv' := [(4, .int (nI (i + 4))), (6, .int (bi (if F 7 (gi (xs (i + 1))) = -1 then false else mWrong F (gi (xs (i + 1))) (F 7 (gi (xs (i + 1))))))), (5, .int (th1 n (xs (i + 1)))), (0, .ref b), (1, .ref (qx 9)), (2, .ref (qm 9)), (3, .ref qo)]) hx hb dL_law_1303 hl (k := 2) rfl (nI_add i 4) (by decide) rfl (fun ls hl => ?_)
      refine lv_goto (tgt := 23) hx hb dL_law_1306 (by decide) ?_
      refine W.widen (k := 21 + 2 * (i + 4)) (n := 462 + 8 * (i + 4)) (by omega) (by omega) ?_
      exact ih F n _ _ _ _ _ _ _ hw hs hP hD hS (lv_sub hl [0, 3, 4, 5, 6] rfl)
set_option maxHeartbeats 4000000 in
set_option maxRecDepth 100000 in
theorem law_c14 {p9 : Program} {l : Launch} {e9 : Env} {s : State} {m9 : MethodId} {below : List Frame} {meth : Method} {c9 : Code} {b L : Nat} {xs : Nat → Int32} (hL : L ≤ 2048) (hfl : l.stackTraces = false) (C0 : lw_At p9 s m9 meth c9 b L xs) (ht : tB s) (hn9 : nC s) {D : va_G} {qx qm : Nat → Nat} {qo : Nat} {cI cZ cL : ClassId} (hK : va_K D vwCl (tIZL cI cZ cL) s) {i : Nat} (hi : i + 4 ≤ L) {F : Nat → Nat → Int32} {n : Nat} (hw : WF F n) (hs : SY F) {Rx Rm : Nat → Int32} {th : Int32} {o : Nat → Int64} {H : Heap} {locs : List Loc} {ls : Array Slot} (hP : va_P D vwCl (wAll qx F n Rx qo o qm F n Rm th cI cZ cL) H) (hD : va_D (aL s) (wAll qx F n Rx qo o qm F n Rm th cI cZ cL)) (hS : va_S (aL s) s.heap H locs) (hl : lv_has ls 7 [(4, .int (nI i)), (0, .ref b), (1, .ref (qx 9)), (2, .ref (qm 9)), (3, .ref qo)]) (ih : law_next p9 l e9 s m9 below meth c9 b D qx qm qo cI cZ cL (i + 4)) : W p9 l e9 room_1 s m9 #[Value.ref b] below meth c9 H locs (21 + 2 * i) (462 + 8 * i) (lw_Z below #[Value.ref b] s) (F0 m9 1064 ls []) := by
  obtain ⟨hx, hb, hr, hml, hown0, hts0, hX, hbl, hlocks, hgv⟩ := id C0
  have hown : s.vm.findClass RL = some m9.cls := hown0
  have hts : ∀ w ∈ wsL_law, w.before #[Value.ref b] s = true := fun w h => hts0 w (wsL_law_in w h)
  have hbA : ¬ aL s b := Nat.not_le.mpr hbl
  refine lv_aload_n hx hb dL_law_1064 rfl (lv_at hl 2 rfl) ?_
  refine ro_V (As := []) (rest := []) ⟨hx, hb, hml, hown, hts⟩ (c_X0_breaches l D qx F n Rx cI cZ hw) (cwV 0 hts gL_law_X0_breaches rfl rfl rfl (by decide +kernel) ⟨Nat.le_of_ble_eq_true rfl, Nat.le_of_ble_eq_true rfl⟩) (hK.sub [0, 1] rfl) hP (hP.sub [0, 1, 2, 3, 4, 5, 6, 7, 8, 9] rfl) (va_recv hK hP (ci := 0) (q0 := 0) rfl rfl) hS rfl hl.1 rfl (Nat.le_of_ble_eq_true rfl) dL_law_1065 ⟨by show _ ≤ 647008; omega, by show _ ≤ 7155079; omega⟩ (fun r H locs hr9 hP hS => ?_)
  subst hr9
  refine lv_aload_n hx hb dL_law_1068 rfl (lv_at hl 3 rfl) ?_
  refine wr_V (As := []) (rest := [.int (nI (cO F n n))]) (wr := (wXo qx F (nI n) Rx qo o cI cZ cL)) ⟨hx, hb, hml, hown, hts⟩ (c_X1_breaches l D qm F n Rm th cI cZ _ hw) (cwV 0 hts gL_law_X1_breaches rfl rfl rfl (by decide +kernel) ⟨Nat.le_of_ble_eq_true rfl, Nat.le_of_ble_eq_true rfl⟩) (hK.sub [0, 1] rfl) hP hD (fun q h => h) [11, 12, 13, 14, 15, 16, 17, 18, 19, 20] [0, 1, 2, 3, 4, 5, 6, 7, 8, 9, 10] rfl rfl (by decide) rfl (by decide) (by decide) (va_recv hK hP (ci := 1) (q0 := 11) rfl rfl) hS rfl hl.1 rfl (Nat.le_of_ble_eq_true rfl) dL_law_1069 ⟨by show _ ≤ 647008; omega, by show _ ≤ 7155079; omega⟩ (fun r9 u9 H locs h9 hP hD hS => ?_)
  obtain ⟨rfl, rfl⟩ := h9
  have hP : va_P D vwCl (wAll qx F n Rx qo o qm F n Rm 0 cI cZ cL) H := hP
  have hD : va_D (aL s) (wAll qx F n Rx qo o qm F n Rm 0 cI cZ cL) := hD
  refine lv_icmp_eq (x := (nI (cO F n n))) (y := (nI (mBr F n 256 / 2))) (tgt := 1303) hx hb dL_law_1072 (by decide) (fun c_1072 => ?_) (fun c_1072 => absurd (congrArg nI (pairs_eq hw hs)) c_1072)
  refine lv_iinc (v := (nI (i + 4))) (lv' := [(4, .int (nI (i + 4))), (0, .ref b), (1, .ref (qx 9)), (2, .ref (qm 9)), (3, .ref qo)]) hx hb dL_law_1303 hl (k := 0) rfl (nI_add i 4) (by decide) rfl (fun ls hl => ?_)
  refine lv_goto (tgt := 23) hx hb dL_law_1306 (by decide) ?_
  refine W.widen (k := 21 + 2 * (i + 4)) (n := 462 + 8 * (i + 4)) (by omega) (by omega) ?_
  exact ih F n _ _ _ _ _ _ _ hw hs hP hD hS (lv_sub hl [0, 1, 2, 3, 4] rfl)
set_option maxHeartbeats 4000000 in
set_option maxRecDepth 100000 in
theorem law_c15 {p9 : Program} {l : Launch} {e9 : Env} {s : State} {m9 : MethodId} {below : List Frame} {meth : Method} {c9 : Code} {b L : Nat} {xs : Nat → Int32} (hL : L ≤ 2048) (hfl : l.stackTraces = false) (C0 : lw_At p9 s m9 meth c9 b L xs) (ht : tB s) (hn9 : nC s) {D : va_G} {qx qm : Nat → Nat} {qo : Nat} {cI cZ cL : ClassId} (hK : va_K D vwCl (tIZL cI cZ cL) s) {i : Nat} (hi : i + 4 ≤ L) {F : Nat → Nat → Int32} {n : Nat} (hw : WF F n) (hs : SY F) {Rx Rm : Nat → Int32} {th : Int32} {o : Nat → Int64} {H : Heap} {locs : List Loc} {ls : Array Slot} (hP : va_P D vwCl (wAll qx F n Rx qo o qm F n Rm th cI cZ cL) H) (hD : va_D (aL s) (wAll qx F n Rx qo o qm F n Rm th cI cZ cL)) (hS : va_S (aL s) s.heap H locs) (hl : lv_has ls 7 [(4, .int (nI i)), (0, .ref b), (1, .ref (qx 9)), (2, .ref (qm 9)), (3, .ref qo)]) (ih : law_next p9 l e9 s m9 below meth c9 b D qx qm qo cI cZ cL (i + 4)) : W p9 l e9 room_1 s m9 #[Value.ref b] below meth c9 H locs (21 + 2 * i) (462 + 8 * i) (lw_Z below #[Value.ref b] s) (F0 m9 1077 ls []) := by
  obtain ⟨hx, hb, hr, hml, hown0, hts0, hX, hbl, hlocks, hgv⟩ := id C0
  have hown : s.vm.findClass RL = some m9.cls := hown0
  have hts : ∀ w ∈ wsL_law, w.before #[Value.ref b] s = true := fun w h => hts0 w (wsL_law_in w h)
  have hbA : ¬ aL s b := Nat.not_le.mpr hbl
  refine lv_aload_n hx hb dL_law_1077 rfl (lv_at hl 2 rfl) ?_
  refine lv_aload_n hx hb dL_law_1078 rfl (lv_at hl 1 rfl) ?_
  refine lv_iload hx hb dL_law_1079 (lv_at hl 0 rfl) ?_
  refine lv_iconst (v := 1) hx hb dL_law_1081 (by decide) ?_
  refine lv_iadd hx hb (x := (nI i)) (y := 1) dL_law_1082 ?_
  refine W.eq (g2 := F0 m9 1083 ls (.int (nI (i + 1)) :: [.ref b, .ref (qx 9)])) (congrArg (fun z => F0 m9 1083 ls (Value.int z :: [.ref b, .ref (qx 9)])) (nI_add i 1)) ?_
  refine xsld hx hb hX hbl hbA hS (k := (i + 1)) (by omega) (by omega) dL_law_1083 ?_
  refine lv_aload_n hx hb dL_law_1084 rfl (lv_at hl 4 rfl) ?_
  refine l_S (As := [.ref (qx 9), .int (xs (i + 1)), .ref qo]) (rest := []) (wr := wM qm F (nI n) Rm th cI cZ) ⟨hx, hb, hml, hown, hts⟩ (c_L_inBreachWith l hfl D qx F n Rx qo o cI cZ cL _ (xs (i + 1)) hw) (vx_cwSW 3 hts gL_law_L_inBreachWith rfl rfl rfl (by decide +kernel) ⟨Nat.le_of_ble_eq_true rfl, Nat.le_of_ble_eq_true rfl⟩) hn9 ht hK hP hD [0, 1, 2, 3, 4, 5, 6, 7, 8, 9, 10] [11, 12, 13, 14, 15, 16, 17, 18, 19, 20] rfl rfl (by decide) rfl (by decide) (by decide) hS rfl hl.1 rfl (Nat.le_of_ble_eq_true rfl) dL_law_1085 ⟨by show _ ≤ 647008; omega, by show _ ≤ 7155079; omega⟩ (fun r8 u8 H locs h8 hP hD hS => ?_)
  obtain ⟨rfl, h8b⟩ := h8
  have hP : va_P D vwCl (wAll qx F n Rx qo u8 qm F n Rm th cI cZ cL) H := hP.sub [10, 11, 12, 13, 14, 15, 16, 17, 18, 19, 20, 0, 1, 2, 3, 4, 5, 6, 7, 8, 9] rfl
  have hD : va_D (aL s) (wAll qx F n Rx qo u8 qm F n Rm th cI cZ cL) := hD.sub [10, 11, 12, 13, 14, 15, 16, 17, 18, 19, 20, 0, 1, 2, 3, 4, 5, 6, 7, 8, 9] (by decide) rfl
  refine lv_istore (lv' := [(5, .int (th1 n (xs (i + 1)))), (4, .int (nI i)), (0, .ref b), (1, .ref (qx 9)), (2, .ref (qm 9)), (3, .ref qo)]) hx hb dL_law_1088 hl (by decide) rfl (fun ls hl => ?_)
  refine lv_aload_n hx hb dL_law_1090 rfl (lv_at hl 4 rfl) ?_
  refine lv_aload_n hx hb dL_law_1091 rfl (lv_at hl 2 rfl) ?_
  refine lv_iload hx hb dL_law_1092 (lv_at hl 1 rfl) ?_
  refine lv_iconst (v := 1) hx hb dL_law_1094 (by decide) ?_
  refine lv_iadd hx hb (x := (nI i)) (y := 1) dL_law_1095 ?_
  refine W.eq (g2 := F0 m9 1096 ls (.int (nI (i + 1)) :: [.ref b, .ref (qm 9)])) (congrArg (fun z => F0 m9 1096 ls (Value.int z :: [.ref b, .ref (qm 9)])) (nI_add i 1)) ?_
  refine xsld hx hb hX hbl hbA hS (k := (i + 1)) (by omega) (by omega) dL_law_1096 ?_
  refine wr_V (As := [.int (xs (i + 1))]) (rest := []) (wr := (wXo qx F (nI n) Rx qo u8 cI cZ cL)) ⟨hx, hb, hml, hown, hts⟩ (c_X1_inBreachWith l D qm F n Rm th cI cZ _ (xs (i + 1)) hw) (cwV 1 hts gL_law_X1_inBreachWith rfl rfl rfl (by decide +kernel) ⟨Nat.le_of_ble_eq_true rfl, Nat.le_of_ble_eq_true rfl⟩) (hK.sub [0, 1] rfl) hP hD (fun q h => h) [11, 12, 13, 14, 15, 16, 17, 18, 19, 20] [0, 1, 2, 3, 4, 5, 6, 7, 8, 9, 10] rfl rfl (by decide) rfl (by decide) (by decide) (va_recv hK hP (ci := 1) (q0 := 11) rfl rfl) hS rfl hl.1 rfl (Nat.le_of_ble_eq_true rfl) dL_law_1097 ⟨by show _ ≤ 647008; omega, by show _ ≤ 7155079; omega⟩ (fun r9 u9 H locs h9 hP hD hS => ?_)
  obtain ⟨rfl, h9b⟩ := h9
  have hP : va_P D vwCl (wAll qx F n Rx qo u8 qm F n Rm (th1 n (xs (i + 1))) cI cZ cL) H := hP
  have hD : va_D (aL s) (wAll qx F n Rx qo u8 qm F n Rm (th1 n (xs (i + 1))) cI cZ cL) := hD
  refine lv_istore (lv' := [(6, .int r9), (5, .int (th1 n (xs (i + 1)))), (4, .int (nI i)), (0, .ref b), (1, .ref (qx 9)), (2, .ref (qm 9)), (3, .ref qo)]) hx hb dL_law_1100 hl (by decide) rfl (fun ls hl => ?_)
  refine lv_aload_n hx hb dL_law_1102 rfl (lv_at hl 5 rfl) ?_
  refine ro_V (As := []) (rest := []) ⟨hx, hb, hml, hown, hts⟩ (c_X1_thrown l D qm F n Rm (th1 n (xs (i + 1))) cI cZ) (cwV 0 hts gL_law_X1_thrown rfl rfl rfl (by decide +kernel) ⟨Nat.le_of_ble_eq_true rfl, Nat.le_of_ble_eq_true rfl⟩) (hK.sub [0, 1] rfl) hP (hP.sub [11, 12, 13, 14, 15, 16, 17, 18, 19, 20] rfl) (va_recv hK hP (ci := 1) (q0 := 11) rfl rfl) hS rfl hl.1 rfl (Nat.le_of_ble_eq_true rfl) dL_law_1103 ⟨by show _ ≤ 647008; omega, by show _ ≤ 7155079; omega⟩ (fun r H locs hr9 hP hS => ?_)
  subst hr9
  refine lv_iload hx hb dL_law_1106 (lv_at hl 1 rfl) ?_
  refine lv_icmp_eq (x := (th1 n (xs (i + 1)))) (y := (th1 n (xs (i + 1)))) (tgt := 1113) hx hb dL_law_1108 (by decide) (fun c_1108 => ?_) (fun c_1108 => absurd rfl c_1108)
  refine lv_iload hx hb dL_law_1113 (lv_at hl 1 rfl) ?_
  refine lv_if_ne (x := (th1 n (xs (i + 1)))) (tgt := 1130) hx hb dL_law_1115 (by decide) (fun c_1115 => ?_) (fun c_1115 => ?_)
  · skip
    refine lv_goto (tgt := 1303) hx hb dL_law_1130 (by decide) ?_
    refine lv_iinc (v := (nI (i + 4))) (lv' := [(4, .int (nI (i + 4))), (6, .int r9), (5, .int (th1 n (xs (i + 1)))), (0, .ref b), (1, .ref (qx 9)), (2, .ref (qm 9)), (3, .ref qo)]) hx hb dL_law_1303 hl (k := 2) rfl (nI_add i 4) (by decide) rfl (fun ls hl => ?_)
    refine lv_goto (tgt := 23) hx hb dL_law_1306 (by decide) ?_
    refine W.widen (k := 21 + 2 * (i + 4)) (n := 462 + 8 * (i + 4)) (by omega) (by omega) ?_
    exact ih F n _ _ _ _ _ _ _ hw hs hP hD hS (lv_sub hl [0, 3, 4, 5, 6] rfl)
  · have e8 := h8b c_1115
    have e9 := h9b c_1115
    subst e9
    refine lv_aload_n hx hb dL_law_1118 rfl (lv_at hl 6 rfl) ?_
    refine lv_iconst (v := 0) hx hb dL_law_1119 (by decide) ?_
    refine va_lald hx hb hK hP 10 2 rfl rfl (i := 0) in_01 dL_law_1120 ?_
    refine lv_iload hx hb dL_law_1121 (lv_at hl 0 rfl) ?_
    refine lv_i2l hx hb dL_law_1123 rfl ?_
    refine W.lcmp hx hb dL_law_1124 ?_
    refine W.eq (g2 := F0 m9 1125 ls (.int 0 :: [])) (congrArg (fun z => F0 m9 1125 ls (Value.int z :: [])) (lg_eq (e8.trans (congrArg Int32.toInt64 (congrArg nI (at_eq hw (gi_th1 hw.n c_1115))))))) ?_
    refine lv_if_eq (x := 0) (tgt := 1130) hx hb dL_law_1125 (by decide) (fun _ => ?_) (fun k => absurd (by decide) k)
    refine lv_goto (tgt := 1303) hx hb dL_law_1130 (by decide) ?_
    refine lv_iinc (v := (nI (i + 4))) (lv' := [(4, .int (nI (i + 4))), (6, .int (nI (mFoes F n (gi (xs (i + 1)))))), (5, .int (th1 n (xs (i + 1)))), (0, .ref b), (1, .ref (qx 9)), (2, .ref (qm 9)), (3, .ref qo)]) hx hb dL_law_1303 hl (k := 2) rfl (nI_add i 4) (by decide) rfl (fun ls hl => ?_)
    refine lv_goto (tgt := 23) hx hb dL_law_1306 (by decide) ?_
    refine W.widen (k := 21 + 2 * (i + 4)) (n := 462 + 8 * (i + 4)) (by omega) (by omega) ?_
    exact ih F n _ _ _ _ _ _ _ hw hs hP hD hS (lv_sub hl [0, 3, 4, 5, 6] rfl)

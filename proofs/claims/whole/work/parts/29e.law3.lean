/-! the law's cases -/
set_option maxHeartbeats 4000000 in
set_option maxRecDepth 100000 in
theorem law_c16 {p9 : Program} {l : Launch} {e9 : Env} {s : State} {m9 : MethodId} {below : List Frame} {meth : Method} {c9 : Code} {b L : Nat} {xs : Nat → Int32} (hL : L ≤ 2048) (hfl : l.stackTraces = false) (C0 : lw_At p9 s m9 meth c9 b L xs) (ht : tB s) (hn9 : nC s) {D : va_G} {qx qm : Nat → Nat} {qo : Nat} {cI cZ cL : ClassId} (hK : va_K D vwCl (tIZL cI cZ cL) s) {i : Nat} (hi : i + 4 ≤ L) {F : Nat → Nat → Int32} {n : Nat} (hw : WF F n) (hs : SY F) {Rx Rm : Nat → Int32} {th : Int32} {o : Nat → Int64} {H : Heap} {locs : List Loc} {ls : Array Slot} (hP : va_P D vwCl (wAll qx F n Rx qo o qm F n Rm th cI cZ cL) H) (hD : va_D (aL s) (wAll qx F n Rx qo o qm F n Rm th cI cZ cL)) (hS : va_S (aL s) s.heap H locs) (hl : lv_has ls 7 [(4, .int (nI i)), (0, .ref b), (1, .ref (qx 9)), (2, .ref (qm 9)), (3, .ref qo)]) (ih : law_next p9 l e9 s m9 below meth c9 b D qx qm qo cI cZ cL (i + 4)) : W p9 l e9 room_1 s m9 #[Value.ref b] below meth c9 H locs (21 + 2 * i) (462 + 8 * i) (lw_Z below #[Value.ref b] s) (F0 m9 1133 ls []) := by
  obtain ⟨hx, hb, hr, hml, hown0, hts0, hX, hbl, hlocks, hgv⟩ := id C0
  have hown : s.vm.findClass RL = some m9.cls := hown0
  have hts : ∀ w ∈ wsL_law, w.before #[Value.ref b] s = true := fun w h => hts0 w (wsL_law_in w h)
  have hbA : ¬ aL s b := Nat.not_le.mpr hbl
  refine lv_aload_n hx hb dL_law_1133 rfl (lv_at hl 2 rfl) ?_
  refine ro_V (As := []) (rest := []) ⟨hx, hb, hml, hown, hts⟩ (c_X0_isClean l D qx F n Rx cI cZ hw) (cwV 0 hts gL_law_X0_isClean rfl rfl rfl (by decide +kernel) ⟨Nat.le_of_ble_eq_true rfl, Nat.le_of_ble_eq_true rfl⟩) (hK.sub [0, 1] rfl) hP (hP.sub [0, 1, 2, 3, 4, 5, 6, 7, 8, 9] rfl) (va_recv hK hP (ci := 0) (q0 := 0) rfl rfl) hS rfl hl.1 rfl (Nat.le_of_ble_eq_true rfl) dL_law_1134 ⟨by show _ ≤ 647008; omega, by show _ ≤ 7155079; omega⟩ (fun r H locs hr9 hP hS => ?_)
  subst hr9
  refine lv_aload_n hx hb dL_law_1137 rfl (lv_at hl 3 rfl) ?_
  refine wr_V (As := []) (rest := [.int (bi (allB (fun k => sClean F n k (F 7 k)) n))]) (wr := (wXo qx F (nI n) Rx qo o cI cZ cL)) ⟨hx, hb, hml, hown, hts⟩ (c_X1_isClean l D qm F n Rm th cI cZ _ hw) (cwV 0 hts gL_law_X1_isClean rfl rfl rfl (by decide +kernel) ⟨Nat.le_of_ble_eq_true rfl, Nat.le_of_ble_eq_true rfl⟩) (hK.sub [0, 1] rfl) hP hD (fun q h => h) [11, 12, 13, 14, 15, 16, 17, 18, 19, 20] [0, 1, 2, 3, 4, 5, 6, 7, 8, 9, 10] rfl rfl (by decide) rfl (by decide) (by decide) (va_recv hK hP (ci := 1) (q0 := 11) rfl rfl) hS rfl hl.1 rfl (Nat.le_of_ble_eq_true rfl) dL_law_1138 ⟨by show _ ≤ 647008; omega, by show _ ≤ 7155079; omega⟩ (fun r9 u9 H locs h9 hP hD hS => ?_)
  obtain ⟨t9, R9⟩ := u9
  obtain ⟨h9a, rfl⟩ := h9
  obtain rfl : t9 = 0 := h9a
  have hP : va_P D vwCl (wAll qx F n Rx qo o qm F n R9 0 cI cZ cL) H := hP
  have hD : va_D (aL s) (wAll qx F n Rx qo o qm F n R9 0 cI cZ cL) := hD
  refine lv_icmp_eq (x := (bi (allB (fun k => sClean F n k (F 7 k)) n))) (y := (bi (mOk F n 0))) (tgt := 1303) hx hb dL_law_1141 (by decide) (fun c_1141 => ?_) (fun c_1141 => absurd (congrArg bi (clean_eq hw)) c_1141)
  refine lv_iinc (v := (nI (i + 4))) (lv' := [(4, .int (nI (i + 4))), (0, .ref b), (1, .ref (qx 9)), (2, .ref (qm 9)), (3, .ref qo)]) hx hb dL_law_1303 hl (k := 0) rfl (nI_add i 4) (by decide) rfl (fun ls hl => ?_)
  refine lv_goto (tgt := 23) hx hb dL_law_1306 (by decide) ?_
  refine W.widen (k := 21 + 2 * (i + 4)) (n := 462 + 8 * (i + 4)) (by omega) (by omega) ?_
  exact ih F n _ _ _ _ _ _ _ hw hs hP hD hS (lv_sub hl [0, 1, 2, 3, 4] rfl)
set_option maxHeartbeats 4000000 in
set_option maxRecDepth 100000 in
theorem law_c17 {p9 : Program} {l : Launch} {e9 : Env} {s : State} {m9 : MethodId} {below : List Frame} {meth : Method} {c9 : Code} {b L : Nat} {xs : Nat → Int32} (hL : L ≤ 2048) (hfl : l.stackTraces = false) (C0 : lw_At p9 s m9 meth c9 b L xs) (ht : tB s) (hn9 : nC s) {D : va_G} {qx qm : Nat → Nat} {qo : Nat} {cI cZ cL : ClassId} (hK : va_K D vwCl (tIZL cI cZ cL) s) {i : Nat} (hi : i + 4 ≤ L) {F : Nat → Nat → Int32} {n : Nat} (hw : WF F n) (hs : SY F) {Rx Rm : Nat → Int32} {th : Int32} {o : Nat → Int64} {H : Heap} {locs : List Loc} {ls : Array Slot} (hP : va_P D vwCl (wAll qx F n Rx qo o qm F n Rm th cI cZ cL) H) (hD : va_D (aL s) (wAll qx F n Rx qo o qm F n Rm th cI cZ cL)) (hS : va_S (aL s) s.heap H locs) (hl : lv_has ls 7 [(4, .int (nI i)), (0, .ref b), (1, .ref (qx 9)), (2, .ref (qm 9)), (3, .ref qo)]) (ih : law_next p9 l e9 s m9 below meth c9 b D qx qm qo cI cZ cL (i + 4)) : W p9 l e9 room_1 s m9 #[Value.ref b] below meth c9 H locs (21 + 2 * i) (462 + 8 * i) (lw_Z below #[Value.ref b] s) (F0 m9 1146 ls []) := by
  obtain ⟨hx, hb, hr, hml, hown0, hts0, hX, hbl, hlocks, hgv⟩ := id C0
  have hown : s.vm.findClass RL = some m9.cls := hown0
  have hts : ∀ w ∈ wsL_law, w.before #[Value.ref b] s = true := fun w h => hts0 w (wsL_law_in w h)
  have hbA : ¬ aL s b := Nat.not_le.mpr hbl
  refine lv_aload_n hx hb dL_law_1146 rfl (lv_at hl 2 rfl) ?_
  refine lv_aload_n hx hb dL_law_1147 rfl (lv_at hl 1 rfl) ?_
  refine lv_iload hx hb dL_law_1148 (lv_at hl 0 rfl) ?_
  refine lv_iconst (v := 1) hx hb dL_law_1150 (by decide) ?_
  refine lv_iadd hx hb (x := (nI i)) (y := 1) dL_law_1151 ?_
  refine W.eq (g2 := F0 m9 1152 ls (.int (nI (i + 1)) :: [.ref b, .ref (qx 9)])) (congrArg (fun z => F0 m9 1152 ls (Value.int z :: [.ref b, .ref (qx 9)])) (nI_add i 1)) ?_
  refine xsld hx hb hX hbl hbA hS (k := (i + 1)) (by omega) (by omega) dL_law_1152 ?_
  refine lv_aload_n hx hb dL_law_1153 rfl (lv_at hl 1 rfl) ?_
  refine lv_iload hx hb dL_law_1154 (lv_at hl 0 rfl) ?_
  refine lv_iconst (v := 2) hx hb dL_law_1156 (by decide) ?_
  refine lv_iadd hx hb (x := (nI i)) (y := 2) dL_law_1157 ?_
  refine W.eq (g2 := F0 m9 1158 ls (.int (nI (i + 2)) :: [.ref b, .int (xs (i + 1)), .ref (qx 9)])) (congrArg (fun z => F0 m9 1158 ls (Value.int z :: [.ref b, .int (xs (i + 1)), .ref (qx 9)])) (nI_add i 2)) ?_
  refine xsld hx hb hX hbl hbA hS (k := (i + 2)) (by omega) (by omega) dL_law_1158 ?_
  refine lv_aload_n hx hb dL_law_1159 rfl (lv_at hl 4 rfl) ?_
  refine l_S (As := [.ref (qx 9), .int (xs (i + 1)), .int (xs (i + 2)), .ref qo]) (rest := []) (wr := wM qm F (nI n) Rm th cI cZ) ⟨hx, hb, hml, hown, hts⟩ (c_L_canPut l hfl D qx F n Rx qo o cI cZ cL _ (xs (i + 1)) (xs (i + 2)) hw) (vx_cwSW 4 hts gL_law_L_canPut rfl rfl rfl (by decide +kernel) ⟨Nat.le_of_ble_eq_true rfl, Nat.le_of_ble_eq_true rfl⟩) hn9 ht hK hP hD [0, 1, 2, 3, 4, 5, 6, 7, 8, 9, 10] [11, 12, 13, 14, 15, 16, 17, 18, 19, 20] rfl rfl (by decide) rfl (by decide) (by decide) hS rfl hl.1 rfl (Nat.le_of_ble_eq_true rfl) dL_law_1160 ⟨by show _ ≤ 647008; omega, by show _ ≤ 7155079; omega⟩ (fun r8 u8 H locs h8 hP hD hS => ?_)
  obtain ⟨rfl, h8b⟩ := h8
  have hP : va_P D vwCl (wAll qx F n Rx qo u8 qm F n Rm th cI cZ cL) H := hP.sub [10, 11, 12, 13, 14, 15, 16, 17, 18, 19, 20, 0, 1, 2, 3, 4, 5, 6, 7, 8, 9] rfl
  have hD : va_D (aL s) (wAll qx F n Rx qo u8 qm F n Rm th cI cZ cL) := hD.sub [10, 11, 12, 13, 14, 15, 16, 17, 18, 19, 20, 0, 1, 2, 3, 4, 5, 6, 7, 8, 9] (by decide) rfl
  refine lv_istore (lv' := [(5, .int (thCP n (xs (i + 1)) (xs (i + 2)))), (4, .int (nI i)), (0, .ref b), (1, .ref (qx 9)), (2, .ref (qm 9)), (3, .ref qo)]) hx hb dL_law_1163 hl (by decide) rfl (fun ls hl => ?_)
  refine lv_aload_n hx hb dL_law_1165 rfl (lv_at hl 4 rfl) ?_
  refine lv_aload_n hx hb dL_law_1166 rfl (lv_at hl 2 rfl) ?_
  refine lv_iload hx hb dL_law_1167 (lv_at hl 1 rfl) ?_
  refine lv_iconst (v := 1) hx hb dL_law_1169 (by decide) ?_
  refine lv_iadd hx hb (x := (nI i)) (y := 1) dL_law_1170 ?_
  refine W.eq (g2 := F0 m9 1171 ls (.int (nI (i + 1)) :: [.ref b, .ref (qm 9)])) (congrArg (fun z => F0 m9 1171 ls (Value.int z :: [.ref b, .ref (qm 9)])) (nI_add i 1)) ?_
  refine xsld hx hb hX hbl hbA hS (k := (i + 1)) (by omega) (by omega) dL_law_1171 ?_
  refine lv_aload_n hx hb dL_law_1172 rfl (lv_at hl 2 rfl) ?_
  refine lv_iload hx hb dL_law_1173 (lv_at hl 1 rfl) ?_
  refine lv_iconst (v := 2) hx hb dL_law_1175 (by decide) ?_
  refine lv_iadd hx hb (x := (nI i)) (y := 2) dL_law_1176 ?_
  refine W.eq (g2 := F0 m9 1177 ls (.int (nI (i + 2)) :: [.ref b, .int (xs (i + 1)), .ref (qm 9)])) (congrArg (fun z => F0 m9 1177 ls (Value.int z :: [.ref b, .int (xs (i + 1)), .ref (qm 9)])) (nI_add i 2)) ?_
  refine xsld hx hb hX hbl hbA hS (k := (i + 2)) (by omega) (by omega) dL_law_1177 ?_
  refine wr_V (As := [.int (xs (i + 1)), .int (xs (i + 2))]) (rest := []) (wr := (wXo qx F (nI n) Rx qo u8 cI cZ cL)) ⟨hx, hb, hml, hown, hts⟩ (c_X1_canPut l D qm F n Rm th cI cZ _ (xs (i + 1)) (xs (i + 2)) hw) (cwV 2 hts gL_law_X1_canPut rfl rfl rfl (by decide +kernel) ⟨Nat.le_of_ble_eq_true rfl, Nat.le_of_ble_eq_true rfl⟩) (hK.sub [0, 1] rfl) hP hD (fun q h => h) [11, 12, 13, 14, 15, 16, 17, 18, 19, 20] [0, 1, 2, 3, 4, 5, 6, 7, 8, 9, 10] rfl rfl (by decide) rfl (by decide) (by decide) (va_recv hK hP (ci := 1) (q0 := 11) rfl rfl) hS rfl hl.1 rfl (Nat.le_of_ble_eq_true rfl) dL_law_1178 ⟨by show _ ≤ 647008; omega, by show _ ≤ 7155079; omega⟩ (fun r9 u9 H locs h9 hP hD hS => ?_)
  obtain ⟨rfl, h9b⟩ := h9
  have hP : va_P D vwCl (wAll qx F n Rx qo u8 qm F n Rm (thCP n (xs (i + 1)) (xs (i + 2))) cI cZ cL) H := hP
  have hD : va_D (aL s) (wAll qx F n Rx qo u8 qm F n Rm (thCP n (xs (i + 1)) (xs (i + 2))) cI cZ cL) := hD
  refine lv_istore (lv' := [(6, .int r9), (5, .int (thCP n (xs (i + 1)) (xs (i + 2)))), (4, .int (nI i)), (0, .ref b), (1, .ref (qx 9)), (2, .ref (qm 9)), (3, .ref qo)]) hx hb dL_law_1181 hl (by decide) rfl (fun ls hl => ?_)
  refine lv_aload_n hx hb dL_law_1183 rfl (lv_at hl 5 rfl) ?_
  refine ro_V (As := []) (rest := []) ⟨hx, hb, hml, hown, hts⟩ (c_X1_thrown l D qm F n Rm (thCP n (xs (i + 1)) (xs (i + 2))) cI cZ) (cwV 0 hts gL_law_X1_thrown rfl rfl rfl (by decide +kernel) ⟨Nat.le_of_ble_eq_true rfl, Nat.le_of_ble_eq_true rfl⟩) (hK.sub [0, 1] rfl) hP (hP.sub [11, 12, 13, 14, 15, 16, 17, 18, 19, 20] rfl) (va_recv hK hP (ci := 1) (q0 := 11) rfl rfl) hS rfl hl.1 rfl (Nat.le_of_ble_eq_true rfl) dL_law_1184 ⟨by show _ ≤ 647008; omega, by show _ ≤ 7155079; omega⟩ (fun r H locs hr9 hP hS => ?_)
  subst hr9
  refine lv_iload hx hb dL_law_1187 (lv_at hl 1 rfl) ?_
  refine lv_icmp_eq (x := (thCP n (xs (i + 1)) (xs (i + 2)))) (y := (thCP n (xs (i + 1)) (xs (i + 2)))) (tgt := 1194) hx hb dL_law_1189 (by decide) (fun c_1189 => ?_) (fun c_1189 => absurd rfl c_1189)
  refine lv_iload hx hb dL_law_1194 (lv_at hl 1 rfl) ?_
  refine lv_if_ne (x := (thCP n (xs (i + 1)) (xs (i + 2)))) (tgt := 1218) hx hb dL_law_1196 (by decide) (fun c_1196 => ?_) (fun c_1196 => ?_)
  · skip
    refine lv_goto (tgt := 1303) hx hb dL_law_1218 (by decide) ?_
    refine lv_iinc (v := (nI (i + 4))) (lv' := [(4, .int (nI (i + 4))), (6, .int r9), (5, .int (thCP n (xs (i + 1)) (xs (i + 2)))), (0, .ref b), (1, .ref (qx 9)), (2, .ref (qm 9)), (3, .ref qo)]) hx hb dL_law_1303 hl (k := 2) rfl (nI_add i 4) (by decide) rfl (fun ls hl => ?_)
    refine lv_goto (tgt := 23) hx hb dL_law_1306 (by decide) ?_
    refine W.widen (k := 21 + 2 * (i + 4)) (n := 462 + 8 * (i + 4)) (by omega) (by omega) ?_
    exact ih F n _ _ _ _ _ _ _ hw hs hP hD hS (lv_sub hl [0, 3, 4, 5, 6] rfl)
  · have e8 := h8b c_1196
    have e9 := h9b c_1196
    subst e9
    refine lv_aload_n hx hb dL_law_1199 rfl (lv_at hl 6 rfl) ?_
    refine lv_iconst (v := 0) hx hb dL_law_1200 (by decide) ?_
    refine va_lald hx hb hK hP 10 2 rfl rfl (i := 0) in_01 dL_law_1201 ?_
    refine lv_iload hx hb dL_law_1202 (lv_at hl 0 rfl) ?_
    refine lv_if_eq (x := (bi (mGood F n (gi (xs (i + 1))) (xs (i + 2))))) (tgt := 1211) hx hb dL_law_1204 (by decide) (fun c_1204 => ?_) (fun c_1204 => ?_)
    · have c_1204 := bi_e0.mp c_1204
      refine lv_lconst (v := 0) hx hb dL_law_1211 rfl ?_
      refine W.lcmp hx hb dL_law_1212 ?_
      refine W.eq (g2 := F0 m9 1213 ls (.int 0 :: [])) (congrArg (fun z => F0 m9 1213 ls (Value.int z :: [])) (lg_eq (e8.trans (l01_f (((thCP_of hw c_1196)).trans c_1204))))) ?_
      refine lv_if_eq (x := 0) (tgt := 1218) hx hb dL_law_1213 (by decide) (fun _ => ?_) (fun k => absurd (by decide) k)
      refine lv_goto (tgt := 1303) hx hb dL_law_1218 (by decide) ?_
      refine lv_iinc (v := (nI (i + 4))) (lv' := [(4, .int (nI (i + 4))), (6, .int (bi (mGood F n (gi (xs (i + 1))) (xs (i + 2))))), (5, .int (thCP n (xs (i + 1)) (xs (i + 2)))), (0, .ref b), (1, .ref (qx 9)), (2, .ref (qm 9)), (3, .ref qo)]) hx hb dL_law_1303 hl (k := 2) rfl (nI_add i 4) (by decide) rfl (fun ls hl => ?_)
      refine lv_goto (tgt := 23) hx hb dL_law_1306 (by decide) ?_
      refine W.widen (k := 21 + 2 * (i + 4)) (n := 462 + 8 * (i + 4)) (by omega) (by omega) ?_
      exact ih F n _ _ _ _ _ _ _ hw hs hP hD hS (lv_sub hl [0, 3, 4, 5, 6] rfl)
    · have c_1204 := bi_n0.mp c_1204
      refine lv_lconst (v := 1) hx hb dL_law_1207 rfl ?_
      refine lv_goto (tgt := 1212) hx hb dL_law_1208 (by decide) ?_
      refine W.lcmp hx hb dL_law_1212 ?_
      refine W.eq (g2 := F0 m9 1213 ls (.int 0 :: [])) (congrArg (fun z => F0 m9 1213 ls (Value.int z :: [])) (lg_eq (e8.trans (l01_t (((thCP_of hw c_1196)).trans c_1204))))) ?_
      refine lv_if_eq (x := 0) (tgt := 1218) hx hb dL_law_1213 (by decide) (fun _ => ?_) (fun k => absurd (by decide) k)
      refine lv_goto (tgt := 1303) hx hb dL_law_1218 (by decide) ?_
      refine lv_iinc (v := (nI (i + 4))) (lv' := [(4, .int (nI (i + 4))), (6, .int (bi (mGood F n (gi (xs (i + 1))) (xs (i + 2))))), (5, .int (thCP n (xs (i + 1)) (xs (i + 2)))), (0, .ref b), (1, .ref (qx 9)), (2, .ref (qm 9)), (3, .ref qo)]) hx hb dL_law_1303 hl (k := 2) rfl (nI_add i 4) (by decide) rfl (fun ls hl => ?_)
      refine lv_goto (tgt := 23) hx hb dL_law_1306 (by decide) ?_
      refine W.widen (k := 21 + 2 * (i + 4)) (n := 462 + 8 * (i + 4)) (by omega) (by omega) ?_
      exact ih F n _ _ _ _ _ _ _ hw hs hP hD hS (lv_sub hl [0, 3, 4, 5, 6] rfl)
set_option maxHeartbeats 4000000 in
set_option maxRecDepth 100000 in
theorem law_c18 {p9 : Program} {l : Launch} {e9 : Env} {s : State} {m9 : MethodId} {below : List Frame} {meth : Method} {c9 : Code} {b L : Nat} {xs : Nat → Int32} (hL : L ≤ 2048) (hfl : l.stackTraces = false) (C0 : lw_At p9 s m9 meth c9 b L xs) (ht : tB s) (hn9 : nC s) {D : va_G} {qx qm : Nat → Nat} {qo : Nat} {cI cZ cL : ClassId} (hK : va_K D vwCl (tIZL cI cZ cL) s) {i : Nat} (hi : i + 4 ≤ L) {F : Nat → Nat → Int32} {n : Nat} (hw : WF F n) (hs : SY F) {Rx Rm : Nat → Int32} {th : Int32} {o : Nat → Int64} {H : Heap} {locs : List Loc} {ls : Array Slot} (hP : va_P D vwCl (wAll qx F n Rx qo o qm F n Rm th cI cZ cL) H) (hD : va_D (aL s) (wAll qx F n Rx qo o qm F n Rm th cI cZ cL)) (hS : va_S (aL s) s.heap H locs) (hl : lv_has ls 7 [(4, .int (nI i)), (0, .ref b), (1, .ref (qx 9)), (2, .ref (qm 9)), (3, .ref qo)]) (ih : law_next p9 l e9 s m9 below meth c9 b D qx qm qo cI cZ cL (i + 4)) : W p9 l e9 room_1 s m9 #[Value.ref b] below meth c9 H locs (21 + 2 * i) (462 + 8 * i) (lw_Z below #[Value.ref b] s) (F0 m9 1221 ls []) := by
  obtain ⟨hx, hb, hr, hml, hown0, hts0, hX, hbl, hlocks, hgv⟩ := id C0
  have hown : s.vm.findClass RL = some m9.cls := hown0
  have hts : ∀ w ∈ wsL_law, w.before #[Value.ref b] s = true := fun w h => hts0 w (wsL_law_in w h)
  have hbA : ¬ aL s b := Nat.not_le.mpr hbl
  refine lv_aload_n hx hb dL_law_1221 rfl (lv_at hl 2 rfl) ?_
  refine lv_aload_n hx hb dL_law_1222 rfl (lv_at hl 1 rfl) ?_
  refine lv_iload hx hb dL_law_1223 (lv_at hl 0 rfl) ?_
  refine lv_iconst (v := 1) hx hb dL_law_1225 (by decide) ?_
  refine lv_iadd hx hb (x := (nI i)) (y := 1) dL_law_1226 ?_
  refine W.eq (g2 := F0 m9 1227 ls (.int (nI (i + 1)) :: [.ref b, .ref (qx 9)])) (congrArg (fun z => F0 m9 1227 ls (Value.int z :: [.ref b, .ref (qx 9)])) (nI_add i 1)) ?_
  refine xsld hx hb hX hbl hbA hS (k := (i + 1)) (by omega) (by omega) dL_law_1227 ?_
  refine lv_aload_n hx hb dL_law_1228 rfl (lv_at hl 4 rfl) ?_
  refine l_S (As := [.ref (qx 9), .int (xs (i + 1)), .ref qo]) (rest := []) (wr := wM qm F (nI n) Rm th cI cZ) ⟨hx, hb, hml, hown, hts⟩ (c_L_placeFor l hfl D qx F n Rx qo o cI cZ cL _ (xs (i + 1)) hw) (vx_cwSW 3 hts gL_law_L_placeFor rfl rfl rfl (by decide +kernel) ⟨Nat.le_of_ble_eq_true rfl, Nat.le_of_ble_eq_true rfl⟩) hn9 ht hK hP hD [0, 1, 2, 3, 4, 5, 6, 7, 8, 9, 10] [11, 12, 13, 14, 15, 16, 17, 18, 19, 20] rfl rfl (by decide) rfl (by decide) (by decide) hS rfl hl.1 rfl (Nat.le_of_ble_eq_true rfl) dL_law_1229 ⟨by show _ ≤ 647008; omega, by show _ ≤ 7155079; omega⟩ (fun r8 u8 H locs h8 hP hD hS => ?_)
  obtain ⟨rfl, h8b⟩ := h8
  have hP : va_P D vwCl (wAll qx F n Rx qo u8 qm F n Rm th cI cZ cL) H := hP.sub [10, 11, 12, 13, 14, 15, 16, 17, 18, 19, 20, 0, 1, 2, 3, 4, 5, 6, 7, 8, 9] rfl
  have hD : va_D (aL s) (wAll qx F n Rx qo u8 qm F n Rm th cI cZ cL) := hD.sub [10, 11, 12, 13, 14, 15, 16, 17, 18, 19, 20, 0, 1, 2, 3, 4, 5, 6, 7, 8, 9] (by decide) rfl
  refine lv_istore (lv' := [(5, .int (th1 n (xs (i + 1)))), (4, .int (nI i)), (0, .ref b), (1, .ref (qx 9)), (2, .ref (qm 9)), (3, .ref qo)]) hx hb dL_law_1232 hl (by decide) rfl (fun ls hl => ?_)
  refine lv_aload_n hx hb dL_law_1234 rfl (lv_at hl 4 rfl) ?_
  refine lv_aload_n hx hb dL_law_1235 rfl (lv_at hl 2 rfl) ?_
  refine lv_iload hx hb dL_law_1236 (lv_at hl 1 rfl) ?_
  refine lv_iconst (v := 1) hx hb dL_law_1238 (by decide) ?_
  refine lv_iadd hx hb (x := (nI i)) (y := 1) dL_law_1239 ?_
  refine W.eq (g2 := F0 m9 1240 ls (.int (nI (i + 1)) :: [.ref b, .ref (qm 9)])) (congrArg (fun z => F0 m9 1240 ls (Value.int z :: [.ref b, .ref (qm 9)])) (nI_add i 1)) ?_
  refine xsld hx hb hX hbl hbA hS (k := (i + 1)) (by omega) (by omega) dL_law_1240 ?_
  refine wr_V (As := [.int (xs (i + 1))]) (rest := []) (wr := (wXo qx F (nI n) Rx qo u8 cI cZ cL)) ⟨hx, hb, hml, hown, hts⟩ (c_X1_placeFor l D qm F n Rm th cI cZ _ (xs (i + 1)) hw) (cwV 1 hts gL_law_X1_placeFor rfl rfl rfl (by decide +kernel) ⟨Nat.le_of_ble_eq_true rfl, Nat.le_of_ble_eq_true rfl⟩) (hK.sub [0, 1] rfl) hP hD (fun q h => h) [11, 12, 13, 14, 15, 16, 17, 18, 19, 20] [0, 1, 2, 3, 4, 5, 6, 7, 8, 9, 10] rfl rfl (by decide) rfl (by decide) (by decide) (va_recv hK hP (ci := 1) (q0 := 11) rfl rfl) hS rfl hl.1 rfl (Nat.le_of_ble_eq_true rfl) dL_law_1241 ⟨by show _ ≤ 647008; omega, by show _ ≤ 7155079; omega⟩ (fun r9 u9 H locs h9 hP hD hS => ?_)
  obtain ⟨rfl, h9b⟩ := h9
  have hP : va_P D vwCl (wAll qx F n Rx qo u8 qm F n Rm (th1 n (xs (i + 1))) cI cZ cL) H := hP
  have hD : va_D (aL s) (wAll qx F n Rx qo u8 qm F n Rm (th1 n (xs (i + 1))) cI cZ cL) := hD
  refine lv_istore (lv' := [(6, .int r9), (5, .int (th1 n (xs (i + 1)))), (4, .int (nI i)), (0, .ref b), (1, .ref (qx 9)), (2, .ref (qm 9)), (3, .ref qo)]) hx hb dL_law_1244 hl (by decide) rfl (fun ls hl => ?_)
  refine lv_aload_n hx hb dL_law_1246 rfl (lv_at hl 5 rfl) ?_
  refine ro_V (As := []) (rest := []) ⟨hx, hb, hml, hown, hts⟩ (c_X1_thrown l D qm F n Rm (th1 n (xs (i + 1))) cI cZ) (cwV 0 hts gL_law_X1_thrown rfl rfl rfl (by decide +kernel) ⟨Nat.le_of_ble_eq_true rfl, Nat.le_of_ble_eq_true rfl⟩) (hK.sub [0, 1] rfl) hP (hP.sub [11, 12, 13, 14, 15, 16, 17, 18, 19, 20] rfl) (va_recv hK hP (ci := 1) (q0 := 11) rfl rfl) hS rfl hl.1 rfl (Nat.le_of_ble_eq_true rfl) dL_law_1247 ⟨by show _ ≤ 647008; omega, by show _ ≤ 7155079; omega⟩ (fun r H locs hr9 hP hS => ?_)
  subst hr9
  refine lv_iload hx hb dL_law_1250 (lv_at hl 1 rfl) ?_
  refine lv_icmp_eq (x := (th1 n (xs (i + 1)))) (y := (th1 n (xs (i + 1)))) (tgt := 1257) hx hb dL_law_1252 (by decide) (fun c_1252 => ?_) (fun c_1252 => absurd rfl c_1252)
  refine lv_iload hx hb dL_law_1257 (lv_at hl 1 rfl) ?_
  refine lv_if_ne (x := (th1 n (xs (i + 1)))) (tgt := 1274) hx hb dL_law_1259 (by decide) (fun c_1259 => ?_) (fun c_1259 => ?_)
  · skip
    refine lv_goto (tgt := 1303) hx hb dL_law_1274 (by decide) ?_
    refine lv_iinc (v := (nI (i + 4))) (lv' := [(4, .int (nI (i + 4))), (6, .int r9), (5, .int (th1 n (xs (i + 1)))), (0, .ref b), (1, .ref (qx 9)), (2, .ref (qm 9)), (3, .ref qo)]) hx hb dL_law_1303 hl (k := 2) rfl (nI_add i 4) (by decide) rfl (fun ls hl => ?_)
    refine lv_goto (tgt := 23) hx hb dL_law_1306 (by decide) ?_
    refine W.widen (k := 21 + 2 * (i + 4)) (n := 462 + 8 * (i + 4)) (by omega) (by omega) ?_
    exact ih F n _ _ _ _ _ _ _ hw hs hP hD hS (lv_sub hl [0, 3, 4, 5, 6] rfl)
  · obtain ⟨z8, hz8, e8⟩ := h8b c_1259
    have e9 := isLow_eq hz8 (low_eq hw (gi_th1 hw.n c_1259) (h9b c_1259))
    subst e9
    refine lv_aload_n hx hb dL_law_1262 rfl (lv_at hl 6 rfl) ?_
    refine lv_iconst (v := 0) hx hb dL_law_1263 (by decide) ?_
    refine va_lald hx hb hK hP 10 2 rfl rfl (i := 0) in_01 dL_law_1264 ?_
    refine lv_iload hx hb dL_law_1265 (lv_at hl 0 rfl) ?_
    refine lv_i2l hx hb dL_law_1267 rfl ?_
    refine W.lcmp hx hb dL_law_1268 ?_
    refine W.eq (g2 := F0 m9 1269 ls (.int 0 :: [])) (congrArg (fun z => F0 m9 1269 ls (Value.int z :: [])) (lg_eq e8)) ?_
    refine lv_if_eq (x := 0) (tgt := 1274) hx hb dL_law_1269 (by decide) (fun _ => ?_) (fun k => absurd (by decide) k)
    refine lv_goto (tgt := 1303) hx hb dL_law_1274 (by decide) ?_
    refine lv_iinc (v := (nI (i + 4))) (lv' := [(4, .int (nI (i + 4))), (6, .int z8), (5, .int (th1 n (xs (i + 1)))), (0, .ref b), (1, .ref (qx 9)), (2, .ref (qm 9)), (3, .ref qo)]) hx hb dL_law_1303 hl (k := 2) rfl (nI_add i 4) (by decide) rfl (fun ls hl => ?_)
    refine lv_goto (tgt := 23) hx hb dL_law_1306 (by decide) ?_
    refine W.widen (k := 21 + 2 * (i + 4)) (n := 462 + 8 * (i + 4)) (by omega) (by omega) ?_
    exact ih F n _ _ _ _ _ _ _ hw hs hP hD hS (lv_sub hl [0, 3, 4, 5, 6] rfl)

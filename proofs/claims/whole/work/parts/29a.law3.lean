/-! the law's cases -/
set_option maxHeartbeats 4000000 in
set_option maxRecDepth 100000 in
theorem law_c0 {p9 : Program} {l : Launch} {e9 : Env} {s : State} {m9 : MethodId} {below : List Frame} {meth : Method} {c9 : Code} {b L : Nat} {xs : Nat → Int32} (hL : L ≤ 2048) (hfl : l.stackTraces = false) (C0 : lw_At p9 s m9 meth c9 b L xs) (ht : tB s) (hn9 : nC s) {D : va_G} {qx qm : Nat → Nat} {qo : Nat} {cI cZ cL : ClassId} (hK : va_K D vwCl (tIZL cI cZ cL) s) {i : Nat} (hi : i + 4 ≤ L) {F : Nat → Nat → Int32} {n : Nat} (hw : WF F n) (hs : SY F) {Rx Rm : Nat → Int32} {th : Int32} {o : Nat → Int64} {H : Heap} {locs : List Loc} {ls : Array Slot} (hP : va_P D vwCl (wAll qx F n Rx qo o qm F n Rm th cI cZ cL) H) (hD : va_D (aL s) (wAll qx F n Rx qo o qm F n Rm th cI cZ cL)) (hS : va_S (aL s) s.heap H locs) (hl : lv_has ls 7 [(4, .int (nI i)), (0, .ref b), (1, .ref (qx 9)), (2, .ref (qm 9)), (3, .ref qo)]) (ih : law_next p9 l e9 s m9 below meth c9 b D qx qm qo cI cZ cL (i + 4)) : W p9 l e9 room_1 s m9 #[Value.ref b] below meth c9 H locs (21 + 2 * i) (462 + 8 * i) (lw_Z below #[Value.ref b] s) (F0 m9 136 ls []) := by
  obtain ⟨hx, hb, hr, hml, hown0, hts0, hX, hbl, hlocks, hgv⟩ := id C0
  have hown : s.vm.findClass RL = some m9.cls := hown0
  have hts : ∀ w ∈ wsL_law, w.before #[Value.ref b] s = true := fun w h => hts0 w (wsL_law_in w h)
  have hbA : ¬ aL s b := Nat.not_le.mpr hbl
  refine lv_aload_n hx hb dL_law_136 rfl (lv_at hl 2 rfl) ?_
  refine lv_aload_n hx hb dL_law_137 rfl (lv_at hl 1 rfl) ?_
  refine lv_iload hx hb dL_law_138 (lv_at hl 0 rfl) ?_
  refine lv_iconst (v := 1) hx hb dL_law_140 (by decide) ?_
  refine lv_iadd hx hb (x := (nI i)) (y := 1) dL_law_141 ?_
  refine W.eq (g2 := F0 m9 142 ls (.int (nI (i + 1)) :: [.ref b, .ref (qx 9)])) (congrArg (fun z => F0 m9 142 ls (Value.int z :: [.ref b, .ref (qx 9)])) (nI_add i 1)) ?_
  refine xsld hx hb hX hbl hbA hS (k := (i + 1)) (by omega) (by omega) dL_law_142 ?_
  refine lv_aload_n hx hb dL_law_143 rfl (lv_at hl 1 rfl) ?_
  refine lv_iload hx hb dL_law_144 (lv_at hl 0 rfl) ?_
  refine lv_iconst (v := 2) hx hb dL_law_146 (by decide) ?_
  refine lv_iadd hx hb (x := (nI i)) (y := 2) dL_law_147 ?_
  refine W.eq (g2 := F0 m9 148 ls (.int (nI (i + 2)) :: [.ref b, .int (xs (i + 1)), .ref (qx 9)])) (congrArg (fun z => F0 m9 148 ls (Value.int z :: [.ref b, .int (xs (i + 1)), .ref (qx 9)])) (nI_add i 2)) ?_
  refine xsld hx hb hX hbl hbA hS (k := (i + 2)) (by omega) (by omega) dL_law_148 ?_
  refine lv_aload_n hx hb dL_law_149 rfl (lv_at hl 1 rfl) ?_
  refine lv_iload hx hb dL_law_150 (lv_at hl 0 rfl) ?_
  refine lv_iconst (v := 3) hx hb dL_law_152 (by decide) ?_
  refine lv_iadd hx hb (x := (nI i)) (y := 3) dL_law_153 ?_
  refine W.eq (g2 := F0 m9 154 ls (.int (nI (i + 3)) :: [.ref b, .int (xs (i + 2)), .int (xs (i + 1)), .ref (qx 9)])) (congrArg (fun z => F0 m9 154 ls (Value.int z :: [.ref b, .int (xs (i + 2)), .int (xs (i + 1)), .ref (qx 9)])) (nI_add i 3)) ?_
  refine xsld hx hb hX hbl hbA hS (k := (i + 3)) (by omega) (by omega) dL_law_154 ?_
  refine lv_aload_n hx hb dL_law_155 rfl (lv_at hl 4 rfl) ?_
  refine l_S (As := [.ref (qx 9), .int (xs (i + 1)), .int (xs (i + 2)), .int (xs (i + 3)), .ref qo]) (rest := []) (wr := wM qm F (nI n) Rm th cI cZ) ⟨hx, hb, hml, hown, hts⟩ (c_L_setDistance l hfl D qx F n Rx qo o cI cZ cL _ (xs (i + 1)) (xs (i + 2)) (xs (i + 3)) hw) (vx_cwSW 5 hts gL_law_L_setDistance rfl rfl rfl (by decide +kernel) ⟨Nat.le_of_ble_eq_true rfl, Nat.le_of_ble_eq_true rfl⟩) hn9 ht hK hP hD [0, 1, 2, 3, 4, 5, 6, 7, 8, 9, 10] [11, 12, 13, 14, 15, 16, 17, 18, 19, 20] rfl rfl (by decide) rfl (by decide) (by decide) hS rfl hl.1 rfl (Nat.le_of_ble_eq_true rfl) dL_law_156 ⟨by show _ ≤ 647008; omega, by show _ ≤ 7155079; omega⟩ (fun r8 u8 H locs h8 hP hD hS => ?_)
  obtain ⟨F8, o8⟩ := u8
  obtain ⟨rfl, h8b, h8c⟩ := h8
  have hP : va_P D vwCl (wAll qx F8 n Rx qo o8 qm F n Rm th cI cZ cL) H := hP.sub [10, 11, 12, 13, 14, 15, 16, 17, 18, 19, 20, 0, 1, 2, 3, 4, 5, 6, 7, 8, 9] rfl
  have hD : va_D (aL s) (wAll qx F8 n Rx qo o8 qm F n Rm th cI cZ cL) := hD.sub [10, 11, 12, 13, 14, 15, 16, 17, 18, 19, 20, 0, 1, 2, 3, 4, 5, 6, 7, 8, 9] (by decide) rfl
  refine lv_istore (lv' := [(5, .int (thSD (xs (i + 1)) (xs (i + 2)) (xs (i + 3)))), (4, .int (nI i)), (0, .ref b), (1, .ref (qx 9)), (2, .ref (qm 9)), (3, .ref qo)]) hx hb dL_law_159 hl (by decide) rfl (fun ls hl => ?_)
  refine lv_aload_n hx hb dL_law_161 rfl (lv_at hl 4 rfl) ?_
  refine lv_aload_n hx hb dL_law_162 rfl (lv_at hl 2 rfl) ?_
  refine lv_iload hx hb dL_law_163 (lv_at hl 1 rfl) ?_
  refine lv_iconst (v := 1) hx hb dL_law_165 (by decide) ?_
  refine lv_iadd hx hb (x := (nI i)) (y := 1) dL_law_166 ?_
  refine W.eq (g2 := F0 m9 167 ls (.int (nI (i + 1)) :: [.ref b, .ref (qm 9)])) (congrArg (fun z => F0 m9 167 ls (Value.int z :: [.ref b, .ref (qm 9)])) (nI_add i 1)) ?_
  refine xsld hx hb hX hbl hbA hS (k := (i + 1)) (by omega) (by omega) dL_law_167 ?_
  refine lv_aload_n hx hb dL_law_168 rfl (lv_at hl 2 rfl) ?_
  refine lv_iload hx hb dL_law_169 (lv_at hl 1 rfl) ?_
  refine lv_iconst (v := 2) hx hb dL_law_171 (by decide) ?_
  refine lv_iadd hx hb (x := (nI i)) (y := 2) dL_law_172 ?_
  refine W.eq (g2 := F0 m9 173 ls (.int (nI (i + 2)) :: [.ref b, .int (xs (i + 1)), .ref (qm 9)])) (congrArg (fun z => F0 m9 173 ls (Value.int z :: [.ref b, .int (xs (i + 1)), .ref (qm 9)])) (nI_add i 2)) ?_
  refine xsld hx hb hX hbl hbA hS (k := (i + 2)) (by omega) (by omega) dL_law_173 ?_
  refine lv_aload_n hx hb dL_law_174 rfl (lv_at hl 2 rfl) ?_
  refine lv_iload hx hb dL_law_175 (lv_at hl 1 rfl) ?_
  refine lv_iconst (v := 3) hx hb dL_law_177 (by decide) ?_
  refine lv_iadd hx hb (x := (nI i)) (y := 3) dL_law_178 ?_
  refine W.eq (g2 := F0 m9 179 ls (.int (nI (i + 3)) :: [.ref b, .int (xs (i + 2)), .int (xs (i + 1)), .ref (qm 9)])) (congrArg (fun z => F0 m9 179 ls (Value.int z :: [.ref b, .int (xs (i + 2)), .int (xs (i + 1)), .ref (qm 9)])) (nI_add i 3)) ?_
  refine xsld hx hb hX hbl hbA hS (k := (i + 3)) (by omega) (by omega) dL_law_179 ?_
  refine wr_V (As := [.int (xs (i + 1)), .int (xs (i + 2)), .int (xs (i + 3))]) (rest := []) (wr := (wXo qx F8 (nI n) Rx qo o8 cI cZ cL)) ⟨hx, hb, hml, hown, hts⟩ (c_X1_setDistance l D qm F n Rm th cI cZ _ (xs (i + 1)) (xs (i + 2)) (xs (i + 3)) hw) (cwV 3 hts gL_law_X1_setDistance rfl rfl rfl (by decide +kernel) ⟨Nat.le_of_ble_eq_true rfl, Nat.le_of_ble_eq_true rfl⟩) (hK.sub [0, 1] rfl) hP hD (fun q h => h) [11, 12, 13, 14, 15, 16, 17, 18, 19, 20] [0, 1, 2, 3, 4, 5, 6, 7, 8, 9, 10] rfl rfl (by decide) rfl (by decide) (by decide) (va_recv hK hP (ci := 1) (q0 := 11) rfl rfl) hS rfl hl.1 rfl (Nat.le_of_ble_eq_true rfl) dL_law_180 ⟨by show _ ≤ 647008; omega, by show _ ≤ 7155079; omega⟩ (fun r9 u9 H locs h9 hP hD hS => ?_)
  obtain ⟨t9, F9⟩ := u9
  obtain ⟨h9a, h9b, h9c⟩ := h9
  obtain rfl : t9 = thSD (xs (i + 1)) (xs (i + 2)) (xs (i + 3)) := h9a
  have hP : va_P D vwCl (wAll qx F8 n Rx qo o8 qm F9 n Rm (thSD (xs (i + 1)) (xs (i + 2)) (xs (i + 3))) cI cZ cL) H := hP
  have hD : va_D (aL s) (wAll qx F8 n Rx qo o8 qm F9 n Rm (thSD (xs (i + 1)) (xs (i + 2)) (xs (i + 3))) cI cZ cL) := hD
  refine lv_istore (lv' := [(6, .int r9), (5, .int (thSD (xs (i + 1)) (xs (i + 2)) (xs (i + 3)))), (4, .int (nI i)), (0, .ref b), (1, .ref (qx 9)), (2, .ref (qm 9)), (3, .ref qo)]) hx hb dL_law_183 hl (by decide) rfl (fun ls hl => ?_)
  refine lv_aload_n hx hb dL_law_185 rfl (lv_at hl 5 rfl) ?_
  refine ro_V (As := []) (rest := []) ⟨hx, hb, hml, hown, hts⟩ (c_X1_thrown l D qm F9 n Rm (thSD (xs (i + 1)) (xs (i + 2)) (xs (i + 3))) cI cZ) (cwV 0 hts gL_law_X1_thrown rfl rfl rfl (by decide +kernel) ⟨Nat.le_of_ble_eq_true rfl, Nat.le_of_ble_eq_true rfl⟩) (hK.sub [0, 1] rfl) hP (hP.sub [11, 12, 13, 14, 15, 16, 17, 18, 19, 20] rfl) (va_recv hK hP (ci := 1) (q0 := 11) rfl rfl) hS rfl hl.1 rfl (Nat.le_of_ble_eq_true rfl) dL_law_186 ⟨by show _ ≤ 647008; omega, by show _ ≤ 7155079; omega⟩ (fun r H locs hr9 hP hS => ?_)
  subst hr9
  refine lv_iload hx hb dL_law_189 (lv_at hl 1 rfl) ?_
  refine lv_icmp_eq (x := (thSD (xs (i + 1)) (xs (i + 2)) (xs (i + 3)))) (y := (thSD (xs (i + 1)) (xs (i + 2)) (xs (i + 3)))) (tgt := 196) hx hb dL_law_191 (by decide) (fun c_191 => ?_) (fun c_191 => absurd rfl c_191)
  refine lv_iload hx hb dL_law_196 (lv_at hl 1 rfl) ?_
  refine lv_if_ne (x := (thSD (xs (i + 1)) (xs (i + 2)) (xs (i + 3)))) (tgt := 213) hx hb dL_law_198 (by decide) (fun c_198 => ?_) (fun c_198 => ?_)
  · obtain rfl : F = F8 := (h8c c_198).symm
    obtain rfl : F = F9 := (h9c c_198).symm
    have hP : va_P D vwCl (wAll qx F n Rx qo o8 qm F n Rm (thSD (xs (i + 1)) (xs (i + 2)) (xs (i + 3))) cI cZ cL) H := hP
    have hD : va_D (aL s) (wAll qx F n Rx qo o8 qm F n Rm (thSD (xs (i + 1)) (xs (i + 2)) (xs (i + 3))) cI cZ cL) := hD
    refine lv_goto (tgt := 1303) hx hb dL_law_213 (by decide) ?_
    refine lv_iinc (v := (nI (i + 4))) (lv' := [(4, .int (nI (i + 4))), (6, .int r9), (5, .int (thSD (xs (i + 1)) (xs (i + 2)) (xs (i + 3)))), (0, .ref b), (1, .ref (qx 9)), (2, .ref (qm 9)), (3, .ref qo)]) hx hb dL_law_1303 hl (k := 2) rfl (nI_add i 4) (by decide) rfl (fun ls hl => ?_)
    refine lv_goto (tgt := 23) hx hb dL_law_1306 (by decide) ?_
    refine W.widen (k := 21 + 2 * (i + 4)) (n := 462 + 8 * (i + 4)) (by omega) (by omega) ?_
    exact ih F n _ _ _ _ _ _ _ hw hs hP hD hS (lv_sub hl [0, 3, 4, 5, 6] rfl)
  · obtain ⟨e8, e8f⟩ := h8b c_198
    obtain ⟨e9, e9f⟩ := h9b c_198
    obtain rfl : F8 = (fSD F (xs (i + 1)) (xs (i + 2)) (xs (i + 3))) := e8f
    obtain rfl : F9 = (fSD F (xs (i + 1)) (xs (i + 2)) (xs (i + 3))) := e9f
    subst e9
    have hP : va_P D vwCl (wAll qx (fSD F (xs (i + 1)) (xs (i + 2)) (xs (i + 3))) n Rx qo o8 qm (fSD F (xs (i + 1)) (xs (i + 2)) (xs (i + 3))) n Rm (thSD (xs (i + 1)) (xs (i + 2)) (xs (i + 3))) cI cZ cL) H := hP
    have hD : va_D (aL s) (wAll qx (fSD F (xs (i + 1)) (xs (i + 2)) (xs (i + 3))) n Rx qo o8 qm (fSD F (xs (i + 1)) (xs (i + 2)) (xs (i + 3))) n Rm (thSD (xs (i + 1)) (xs (i + 2)) (xs (i + 3))) cI cZ cL) := hD
    refine lv_aload_n hx hb dL_law_201 rfl (lv_at hl 6 rfl) ?_
    refine lv_iconst (v := 0) hx hb dL_law_202 (by decide) ?_
    refine va_lald hx hb hK hP 10 2 rfl rfl (i := 0) in_01 dL_law_203 ?_
    refine lv_iload hx hb dL_law_204 (lv_at hl 0 rfl) ?_
    refine lv_i2l hx hb dL_law_206 rfl ?_
    refine W.lcmp hx hb dL_law_207 ?_
    refine W.eq (g2 := F0 m9 208 ls (.int 0 :: [])) (congrArg (fun z => F0 m9 208 ls (Value.int z :: [])) (lg_eq e8)) ?_
    refine lv_if_eq (x := 0) (tgt := 213) hx hb dL_law_208 (by decide) (fun _ => ?_) (fun k => absurd (by decide) k)
    refine lv_goto (tgt := 1303) hx hb dL_law_213 (by decide) ?_
    refine lv_iinc (v := (nI (i + 4))) (lv' := [(4, .int (nI (i + 4))), (6, .int (F 0 ((xs (i + 1)) * 10 + (xs (i + 2))).toNatClampNeg)), (5, .int (thSD (xs (i + 1)) (xs (i + 2)) (xs (i + 3)))), (0, .ref b), (1, .ref (qx 9)), (2, .ref (qm 9)), (3, .ref qo)]) hx hb dL_law_1303 hl (k := 2) rfl (nI_add i 4) (by decide) rfl (fun ls hl => ?_)
    refine lv_goto (tgt := 23) hx hb dL_law_1306 (by decide) ?_
    refine W.widen (k := 21 + 2 * (i + 4)) (n := 462 + 8 * (i + 4)) (by omega) (by omega) ?_
    exact ih (fSD F (xs (i + 1)) (xs (i + 2)) (xs (i + 3))) n _ _ _ _ _ _ _ (wf_sd hw c_198) (sy_sd hs c_198) hP hD hS (lv_sub hl [0, 3, 4, 5, 6] rfl)
set_option maxHeartbeats 4000000 in
set_option maxRecDepth 100000 in
theorem law_c1 {p9 : Program} {l : Launch} {e9 : Env} {s : State} {m9 : MethodId} {below : List Frame} {meth : Method} {c9 : Code} {b L : Nat} {xs : Nat → Int32} (hL : L ≤ 2048) (hfl : l.stackTraces = false) (C0 : lw_At p9 s m9 meth c9 b L xs) (ht : tB s) (hn9 : nC s) {D : va_G} {qx qm : Nat → Nat} {qo : Nat} {cI cZ cL : ClassId} (hK : va_K D vwCl (tIZL cI cZ cL) s) {i : Nat} (hi : i + 4 ≤ L) {F : Nat → Nat → Int32} {n : Nat} (hw : WF F n) (hs : SY F) {Rx Rm : Nat → Int32} {th : Int32} {o : Nat → Int64} {H : Heap} {locs : List Loc} {ls : Array Slot} (hP : va_P D vwCl (wAll qx F n Rx qo o qm F n Rm th cI cZ cL) H) (hD : va_D (aL s) (wAll qx F n Rx qo o qm F n Rm th cI cZ cL)) (hS : va_S (aL s) s.heap H locs) (hl : lv_has ls 7 [(4, .int (nI i)), (0, .ref b), (1, .ref (qx 9)), (2, .ref (qm 9)), (3, .ref qo)]) (ih : law_next p9 l e9 s m9 below meth c9 b D qx qm qo cI cZ cL (i + 4)) : W p9 l e9 room_1 s m9 #[Value.ref b] below meth c9 H locs (21 + 2 * i) (462 + 8 * i) (lw_Z below #[Value.ref b] s) (F0 m9 216 ls []) := by
  obtain ⟨hx, hb, hr, hml, hown0, hts0, hX, hbl, hlocks, hgv⟩ := id C0
  have hown : s.vm.findClass RL = some m9.cls := hown0
  have hts : ∀ w ∈ wsL_law, w.before #[Value.ref b] s = true := fun w h => hts0 w (wsL_law_in w h)
  have hbA : ¬ aL s b := Nat.not_le.mpr hbl
  refine lv_aload_n hx hb dL_law_216 rfl (lv_at hl 2 rfl) ?_
  refine lv_aload_n hx hb dL_law_217 rfl (lv_at hl 1 rfl) ?_
  refine lv_iload hx hb dL_law_218 (lv_at hl 0 rfl) ?_
  refine lv_iconst (v := 1) hx hb dL_law_220 (by decide) ?_
  refine lv_iadd hx hb (x := (nI i)) (y := 1) dL_law_221 ?_
  refine W.eq (g2 := F0 m9 222 ls (.int (nI (i + 1)) :: [.ref b, .ref (qx 9)])) (congrArg (fun z => F0 m9 222 ls (Value.int z :: [.ref b, .ref (qx 9)])) (nI_add i 1)) ?_
  refine xsld hx hb hX hbl hbA hS (k := (i + 1)) (by omega) (by omega) dL_law_222 ?_
  refine lv_aload_n hx hb dL_law_223 rfl (lv_at hl 1 rfl) ?_
  refine lv_iload hx hb dL_law_224 (lv_at hl 0 rfl) ?_
  refine lv_iconst (v := 2) hx hb dL_law_226 (by decide) ?_
  refine lv_iadd hx hb (x := (nI i)) (y := 2) dL_law_227 ?_
  refine W.eq (g2 := F0 m9 228 ls (.int (nI (i + 2)) :: [.ref b, .int (xs (i + 1)), .ref (qx 9)])) (congrArg (fun z => F0 m9 228 ls (Value.int z :: [.ref b, .int (xs (i + 1)), .ref (qx 9)])) (nI_add i 2)) ?_
  refine xsld hx hb hX hbl hbA hS (k := (i + 2)) (by omega) (by omega) dL_law_228 ?_
  refine lv_aload_n hx hb dL_law_229 rfl (lv_at hl 1 rfl) ?_
  refine lv_iload hx hb dL_law_230 (lv_at hl 0 rfl) ?_
  refine lv_iconst (v := 3) hx hb dL_law_232 (by decide) ?_
  refine lv_iadd hx hb (x := (nI i)) (y := 3) dL_law_233 ?_
  refine W.eq (g2 := F0 m9 234 ls (.int (nI (i + 3)) :: [.ref b, .int (xs (i + 2)), .int (xs (i + 1)), .ref (qx 9)])) (congrArg (fun z => F0 m9 234 ls (Value.int z :: [.ref b, .int (xs (i + 2)), .int (xs (i + 1)), .ref (qx 9)])) (nI_add i 3)) ?_
  refine xsld hx hb hX hbl hbA hS (k := (i + 3)) (by omega) (by omega) dL_law_234 ?_
  refine l_S (As := [.ref (qx 9), .int (xs (i + 1)), .int (xs (i + 2)), .int (xs (i + 3))]) (rest := []) (wr := wM qm F (nI n) Rm th cI cZ) ⟨hx, hb, hml, hown, hts⟩ (c_L_setQuantities l hfl D qx F n Rx qo o cI cZ cL _ (xs (i + 1)) (xs (i + 2)) (xs (i + 3)) hw) (vx_cwSW 4 hts gL_law_L_setQuantities rfl rfl rfl (by decide +kernel) ⟨Nat.le_of_ble_eq_true rfl, Nat.le_of_ble_eq_true rfl⟩) hn9 ht hK hP hD [0, 1, 2, 3, 4, 5, 6, 7, 8, 9, 10] [11, 12, 13, 14, 15, 16, 17, 18, 19, 20] rfl rfl (by decide) rfl (by decide) (by decide) hS rfl hl.1 rfl (Nat.le_of_ble_eq_true rfl) dL_law_235 ⟨by show _ ≤ 647008; omega, by show _ ≤ 7155079; omega⟩ (fun r8 u8 H locs h8 hP hD hS => ?_)
  obtain ⟨F8, o8⟩ := u8
  obtain ⟨rfl, h8b, h8c⟩ := h8
  have hP : va_P D vwCl (wAll qx F8 n Rx qo o8 qm F n Rm th cI cZ cL) H := hP.sub [10, 11, 12, 13, 14, 15, 16, 17, 18, 19, 20, 0, 1, 2, 3, 4, 5, 6, 7, 8, 9] rfl
  have hD : va_D (aL s) (wAll qx F8 n Rx qo o8 qm F n Rm th cI cZ cL) := hD.sub [10, 11, 12, 13, 14, 15, 16, 17, 18, 19, 20, 0, 1, 2, 3, 4, 5, 6, 7, 8, 9] (by decide) rfl
  refine lv_istore (lv' := [(5, .int (thSQ (xs (i + 1)) (xs (i + 2)) (xs (i + 3)))), (4, .int (nI i)), (0, .ref b), (1, .ref (qx 9)), (2, .ref (qm 9)), (3, .ref qo)]) hx hb dL_law_238 hl (by decide) rfl (fun ls hl => ?_)
  refine lv_aload_n hx hb dL_law_240 rfl (lv_at hl 4 rfl) ?_
  refine lv_aload_n hx hb dL_law_241 rfl (lv_at hl 2 rfl) ?_
  refine lv_iload hx hb dL_law_242 (lv_at hl 1 rfl) ?_
  refine lv_iconst (v := 1) hx hb dL_law_244 (by decide) ?_
  refine lv_iadd hx hb (x := (nI i)) (y := 1) dL_law_245 ?_
  refine W.eq (g2 := F0 m9 246 ls (.int (nI (i + 1)) :: [.ref b, .ref (qm 9)])) (congrArg (fun z => F0 m9 246 ls (Value.int z :: [.ref b, .ref (qm 9)])) (nI_add i 1)) ?_
  refine xsld hx hb hX hbl hbA hS (k := (i + 1)) (by omega) (by omega) dL_law_246 ?_
  refine lv_aload_n hx hb dL_law_247 rfl (lv_at hl 2 rfl) ?_
  refine lv_iload hx hb dL_law_248 (lv_at hl 1 rfl) ?_
  refine lv_iconst (v := 2) hx hb dL_law_250 (by decide) ?_
  refine lv_iadd hx hb (x := (nI i)) (y := 2) dL_law_251 ?_
  refine W.eq (g2 := F0 m9 252 ls (.int (nI (i + 2)) :: [.ref b, .int (xs (i + 1)), .ref (qm 9)])) (congrArg (fun z => F0 m9 252 ls (Value.int z :: [.ref b, .int (xs (i + 1)), .ref (qm 9)])) (nI_add i 2)) ?_
  refine xsld hx hb hX hbl hbA hS (k := (i + 2)) (by omega) (by omega) dL_law_252 ?_
  refine lv_aload_n hx hb dL_law_253 rfl (lv_at hl 2 rfl) ?_
  refine lv_iload hx hb dL_law_254 (lv_at hl 1 rfl) ?_
  refine lv_iconst (v := 3) hx hb dL_law_256 (by decide) ?_
  refine lv_iadd hx hb (x := (nI i)) (y := 3) dL_law_257 ?_
  refine W.eq (g2 := F0 m9 258 ls (.int (nI (i + 3)) :: [.ref b, .int (xs (i + 2)), .int (xs (i + 1)), .ref (qm 9)])) (congrArg (fun z => F0 m9 258 ls (Value.int z :: [.ref b, .int (xs (i + 2)), .int (xs (i + 1)), .ref (qm 9)])) (nI_add i 3)) ?_
  refine xsld hx hb hX hbl hbA hS (k := (i + 3)) (by omega) (by omega) dL_law_258 ?_
  refine wr_Vv (As := [.int (xs (i + 1)), .int (xs (i + 2)), .int (xs (i + 3))]) (rest := []) (wr := (wXo qx F8 (nI n) Rx qo o8 cI cZ cL)) ⟨hx, hb, hml, hown, hts⟩ (c_X1_setQuantities l D qm F n Rm th cI cZ _ (xs (i + 1)) (xs (i + 2)) (xs (i + 3)) hw) (cwV 3 hts gL_law_X1_setQuantities rfl rfl rfl (by decide +kernel) ⟨Nat.le_of_ble_eq_true rfl, Nat.le_of_ble_eq_true rfl⟩) (hK.sub [0, 1] rfl) hP hD (fun q h => h) [11, 12, 13, 14, 15, 16, 17, 18, 19, 20] [0, 1, 2, 3, 4, 5, 6, 7, 8, 9, 10] rfl rfl (by decide) rfl (by decide) (by decide) (va_recv hK hP (ci := 1) (q0 := 11) rfl rfl) hS rfl hl.1 rfl (Nat.le_of_ble_eq_true rfl) dL_law_259 ⟨by show _ ≤ 647008; omega, by show _ ≤ 7155079; omega⟩ (fun u9 H locs h9 hP hD hS => ?_)
  obtain ⟨t9, F9⟩ := u9
  obtain ⟨h9a, h9b, h9c⟩ := h9
  obtain rfl : t9 = thSQ (xs (i + 1)) (xs (i + 2)) (xs (i + 3)) := h9a
  have hP : va_P D vwCl (wAll qx F8 n Rx qo o8 qm F9 n Rm (thSQ (xs (i + 1)) (xs (i + 2)) (xs (i + 3))) cI cZ cL) H := hP
  have hD : va_D (aL s) (wAll qx F8 n Rx qo o8 qm F9 n Rm (thSQ (xs (i + 1)) (xs (i + 2)) (xs (i + 3))) cI cZ cL) := hD
  refine lv_aload_n hx hb dL_law_262 rfl (lv_at hl 4 rfl) ?_
  refine ro_V (As := []) (rest := []) ⟨hx, hb, hml, hown, hts⟩ (c_X1_thrown l D qm F9 n Rm (thSQ (xs (i + 1)) (xs (i + 2)) (xs (i + 3))) cI cZ) (cwV 0 hts gL_law_X1_thrown rfl rfl rfl (by decide +kernel) ⟨Nat.le_of_ble_eq_true rfl, Nat.le_of_ble_eq_true rfl⟩) (hK.sub [0, 1] rfl) hP (hP.sub [11, 12, 13, 14, 15, 16, 17, 18, 19, 20] rfl) (va_recv hK hP (ci := 1) (q0 := 11) rfl rfl) hS rfl hl.1 rfl (Nat.le_of_ble_eq_true rfl) dL_law_263 ⟨by show _ ≤ 647008; omega, by show _ ≤ 7155079; omega⟩ (fun r H locs hr9 hP hS => ?_)
  subst hr9
  refine lv_iload hx hb dL_law_266 (lv_at hl 0 rfl) ?_
  refine lv_icmp_eq (x := (thSQ (xs (i + 1)) (xs (i + 2)) (xs (i + 3)))) (y := (thSQ (xs (i + 1)) (xs (i + 2)) (xs (i + 3)))) (tgt := 273) hx hb dL_law_268 (by decide) (fun c_268 => ?_) (fun c_268 => absurd rfl c_268)
  refine lv_goto (tgt := 1303) hx hb dL_law_273 (by decide) ?_
  by_cases c_0 : thSQ (xs (i + 1)) (xs (i + 2)) (xs (i + 3)) = 0
  · obtain rfl : F8 = (fSQ F (xs (i + 1)) (xs (i + 2)) (xs (i + 3))) := h8b c_0
    obtain rfl : F9 = (fSQ F (xs (i + 1)) (xs (i + 2)) (xs (i + 3))) := h9b c_0
    have hP : va_P D vwCl (wAll qx (fSQ F (xs (i + 1)) (xs (i + 2)) (xs (i + 3))) n Rx qo o8 qm (fSQ F (xs (i + 1)) (xs (i + 2)) (xs (i + 3))) n Rm (thSQ (xs (i + 1)) (xs (i + 2)) (xs (i + 3))) cI cZ cL) H := hP
    have hD : va_D (aL s) (wAll qx (fSQ F (xs (i + 1)) (xs (i + 2)) (xs (i + 3))) n Rx qo o8 qm (fSQ F (xs (i + 1)) (xs (i + 2)) (xs (i + 3))) n Rm (thSQ (xs (i + 1)) (xs (i + 2)) (xs (i + 3))) cI cZ cL) := hD
    refine lv_iinc (v := (nI (i + 4))) (lv' := [(4, .int (nI (i + 4))), (5, .int (thSQ (xs (i + 1)) (xs (i + 2)) (xs (i + 3)))), (0, .ref b), (1, .ref (qx 9)), (2, .ref (qm 9)), (3, .ref qo)]) hx hb dL_law_1303 hl (k := 1) rfl (nI_add i 4) (by decide) rfl (fun ls hl => ?_)
    refine lv_goto (tgt := 23) hx hb dL_law_1306 (by decide) ?_
    refine W.widen (k := 21 + 2 * (i + 4)) (n := 462 + 8 * (i + 4)) (by omega) (by omega) ?_
    exact ih (fSQ F (xs (i + 1)) (xs (i + 2)) (xs (i + 3))) n _ _ _ _ _ _ _ (wf_sq hw) (sy_sq hs) hP hD hS (lv_sub hl [0, 2, 3, 4, 5] rfl)
  · obtain rfl : F = F8 := (h8c c_0).symm
    obtain rfl : F = F9 := (h9c c_0).symm
    have hP : va_P D vwCl (wAll qx F n Rx qo o8 qm F n Rm (thSQ (xs (i + 1)) (xs (i + 2)) (xs (i + 3))) cI cZ cL) H := hP
    have hD : va_D (aL s) (wAll qx F n Rx qo o8 qm F n Rm (thSQ (xs (i + 1)) (xs (i + 2)) (xs (i + 3))) cI cZ cL) := hD
    refine lv_iinc (v := (nI (i + 4))) (lv' := [(4, .int (nI (i + 4))), (5, .int (thSQ (xs (i + 1)) (xs (i + 2)) (xs (i + 3)))), (0, .ref b), (1, .ref (qx 9)), (2, .ref (qm 9)), (3, .ref qo)]) hx hb dL_law_1303 hl (k := 1) rfl (nI_add i 4) (by decide) rfl (fun ls hl => ?_)
    refine lv_goto (tgt := 23) hx hb dL_law_1306 (by decide) ?_
    refine W.widen (k := 21 + 2 * (i + 4)) (n := 462 + 8 * (i + 4)) (by omega) (by omega) ?_
    exact ih F n _ _ _ _ _ _ _ hw hs hP hD hS (lv_sub hl [0, 2, 3, 4, 5] rfl)
set_option maxHeartbeats 4000000 in
set_option maxRecDepth 100000 in
theorem law_c2 {p9 : Program} {l : Launch} {e9 : Env} {s : State} {m9 : MethodId} {below : List Frame} {meth : Method} {c9 : Code} {b L : Nat} {xs : Nat → Int32} (hL : L ≤ 2048) (hfl : l.stackTraces = false) (C0 : lw_At p9 s m9 meth c9 b L xs) (ht : tB s) (hn9 : nC s) {D : va_G} {qx qm : Nat → Nat} {qo : Nat} {cI cZ cL : ClassId} (hK : va_K D vwCl (tIZL cI cZ cL) s) {i : Nat} (hi : i + 4 ≤ L) {F : Nat → Nat → Int32} {n : Nat} (hw : WF F n) (hs : SY F) {Rx Rm : Nat → Int32} {th : Int32} {o : Nat → Int64} {H : Heap} {locs : List Loc} {ls : Array Slot} (hP : va_P D vwCl (wAll qx F n Rx qo o qm F n Rm th cI cZ cL) H) (hD : va_D (aL s) (wAll qx F n Rx qo o qm F n Rm th cI cZ cL)) (hS : va_S (aL s) s.heap H locs) (hl : lv_has ls 7 [(4, .int (nI i)), (0, .ref b), (1, .ref (qx 9)), (2, .ref (qm 9)), (3, .ref qo)]) (ih : law_next p9 l e9 s m9 below meth c9 b D qx qm qo cI cZ cL (i + 4)) : W p9 l e9 room_1 s m9 #[Value.ref b] below meth c9 H locs (21 + 2 * i) (462 + 8 * i) (lw_Z below #[Value.ref b] s) (F0 m9 276 ls []) := by
  obtain ⟨hx, hb, hr, hml, hown0, hts0, hX, hbl, hlocks, hgv⟩ := id C0
  have hown : s.vm.findClass RL = some m9.cls := hown0
  have hts : ∀ w ∈ wsL_law, w.before #[Value.ref b] s = true := fun w h => hts0 w (wsL_law_in w h)
  have hbA : ¬ aL s b := Nat.not_le.mpr hbl
  refine lv_aload_n hx hb dL_law_276 rfl (lv_at hl 2 rfl) ?_
  refine lv_aload_n hx hb dL_law_277 rfl (lv_at hl 1 rfl) ?_
  refine lv_iload hx hb dL_law_278 (lv_at hl 0 rfl) ?_
  refine lv_iconst (v := 1) hx hb dL_law_280 (by decide) ?_
  refine lv_iadd hx hb (x := (nI i)) (y := 1) dL_law_281 ?_
  refine W.eq (g2 := F0 m9 282 ls (.int (nI (i + 1)) :: [.ref b, .ref (qx 9)])) (congrArg (fun z => F0 m9 282 ls (Value.int z :: [.ref b, .ref (qx 9)])) (nI_add i 1)) ?_
  refine xsld hx hb hX hbl hbA hS (k := (i + 1)) (by omega) (by omega) dL_law_282 ?_
  refine lv_aload_n hx hb dL_law_283 rfl (lv_at hl 1 rfl) ?_
  refine lv_iload hx hb dL_law_284 (lv_at hl 0 rfl) ?_
  refine lv_iconst (v := 2) hx hb dL_law_286 (by decide) ?_
  refine lv_iadd hx hb (x := (nI i)) (y := 2) dL_law_287 ?_
  refine W.eq (g2 := F0 m9 288 ls (.int (nI (i + 2)) :: [.ref b, .int (xs (i + 1)), .ref (qx 9)])) (congrArg (fun z => F0 m9 288 ls (Value.int z :: [.ref b, .int (xs (i + 1)), .ref (qx 9)])) (nI_add i 2)) ?_
  refine xsld hx hb hX hbl hbA hS (k := (i + 2)) (by omega) (by omega) dL_law_288 ?_
  refine lv_aload_n hx hb dL_law_289 rfl (lv_at hl 1 rfl) ?_
  refine lv_iload hx hb dL_law_290 (lv_at hl 0 rfl) ?_
  refine lv_iconst (v := 3) hx hb dL_law_292 (by decide) ?_
  refine lv_iadd hx hb (x := (nI i)) (y := 3) dL_law_293 ?_
  refine W.eq (g2 := F0 m9 294 ls (.int (nI (i + 3)) :: [.ref b, .int (xs (i + 2)), .int (xs (i + 1)), .ref (qx 9)])) (congrArg (fun z => F0 m9 294 ls (Value.int z :: [.ref b, .int (xs (i + 2)), .int (xs (i + 1)), .ref (qx 9)])) (nI_add i 3)) ?_
  refine xsld hx hb hX hbl hbA hS (k := (i + 3)) (by omega) (by omega) dL_law_294 ?_
  refine lv_if_eq (x := (xs (i + 3))) (tgt := 302) hx hb dL_law_295 (by decide) (fun c_295 => ?_) (fun c_295 => ?_)
  · skip
    refine lv_iconst (v := 0) hx hb dL_law_302 (by decide) ?_
    refine lv_aload_n hx hb dL_law_303 rfl (lv_at hl 4 rfl) ?_
    refine l_S (As := [.ref (qx 9), .int (xs (i + 1)), .int (xs (i + 2)), .int (bi false), .ref qo]) (rest := []) (wr := wM qm F (nI n) Rm th cI cZ) ⟨hx, hb, hml, hown, hts⟩ (c_L_bar l hfl D qx F n Rx qo o cI cZ cL _ (xs (i + 1)) (xs (i + 2)) false hw) (vx_cwSW 5 hts gL_law_L_bar rfl rfl rfl (by decide +kernel) ⟨Nat.le_of_ble_eq_true rfl, Nat.le_of_ble_eq_true rfl⟩) hn9 ht hK hP hD [0, 1, 2, 3, 4, 5, 6, 7, 8, 9, 10] [11, 12, 13, 14, 15, 16, 17, 18, 19, 20] rfl rfl (by decide) rfl (by decide) (by decide) hS rfl hl.1 rfl (Nat.le_of_ble_eq_true rfl) dL_law_304 ⟨by show _ ≤ 647008; omega, by show _ ≤ 7155079; omega⟩ (fun r8 u8 H locs h8 hP hD hS => ?_)
    obtain ⟨F8, o8⟩ := u8
    obtain ⟨rfl, h8b, h8c⟩ := h8
    have hP : va_P D vwCl (wAll qx F8 n Rx qo o8 qm F n Rm th cI cZ cL) H := hP.sub [10, 11, 12, 13, 14, 15, 16, 17, 18, 19, 20, 0, 1, 2, 3, 4, 5, 6, 7, 8, 9] rfl
    have hD : va_D (aL s) (wAll qx F8 n Rx qo o8 qm F n Rm th cI cZ cL) := hD.sub [10, 11, 12, 13, 14, 15, 16, 17, 18, 19, 20, 0, 1, 2, 3, 4, 5, 6, 7, 8, 9] (by decide) rfl
    refine lv_istore (lv' := [(5, .int (thBar (xs (i + 1)) (xs (i + 2)))), (4, .int (nI i)), (0, .ref b), (1, .ref (qx 9)), (2, .ref (qm 9)), (3, .ref qo)]) hx hb dL_law_307 hl (by decide) rfl (fun ls hl => ?_)
    refine lv_aload_n hx hb dL_law_309 rfl (lv_at hl 4 rfl) ?_
    refine lv_aload_n hx hb dL_law_310 rfl (lv_at hl 2 rfl) ?_
    refine lv_iload hx hb dL_law_311 (lv_at hl 1 rfl) ?_
    refine lv_iconst (v := 1) hx hb dL_law_313 (by decide) ?_
    refine lv_iadd hx hb (x := (nI i)) (y := 1) dL_law_314 ?_
    refine W.eq (g2 := F0 m9 315 ls (.int (nI (i + 1)) :: [.ref b, .ref (qm 9)])) (congrArg (fun z => F0 m9 315 ls (Value.int z :: [.ref b, .ref (qm 9)])) (nI_add i 1)) ?_
    refine xsld hx hb hX hbl hbA hS (k := (i + 1)) (by omega) (by omega) dL_law_315 ?_
    refine lv_aload_n hx hb dL_law_316 rfl (lv_at hl 2 rfl) ?_
    refine lv_iload hx hb dL_law_317 (lv_at hl 1 rfl) ?_
    refine lv_iconst (v := 2) hx hb dL_law_319 (by decide) ?_
    refine lv_iadd hx hb (x := (nI i)) (y := 2) dL_law_320 ?_
    refine W.eq (g2 := F0 m9 321 ls (.int (nI (i + 2)) :: [.ref b, .int (xs (i + 1)), .ref (qm 9)])) (congrArg (fun z => F0 m9 321 ls (Value.int z :: [.ref b, .int (xs (i + 1)), .ref (qm 9)])) (nI_add i 2)) ?_
    refine xsld hx hb hX hbl hbA hS (k := (i + 2)) (by omega) (by omega) dL_law_321 ?_
    refine lv_aload_n hx hb dL_law_322 rfl (lv_at hl 2 rfl) ?_
    refine lv_iload hx hb dL_law_323 (lv_at hl 1 rfl) ?_
    refine lv_iconst (v := 3) hx hb dL_law_325 (by decide) ?_
    refine lv_iadd hx hb (x := (nI i)) (y := 3) dL_law_326 ?_
    refine W.eq (g2 := F0 m9 327 ls (.int (nI (i + 3)) :: [.ref b, .int (xs (i + 2)), .int (xs (i + 1)), .ref (qm 9)])) (congrArg (fun z => F0 m9 327 ls (Value.int z :: [.ref b, .int (xs (i + 2)), .int (xs (i + 1)), .ref (qm 9)])) (nI_add i 3)) ?_
    refine xsld hx hb hX hbl hbA hS (k := (i + 3)) (by omega) (by omega) dL_law_327 ?_
    refine lv_if_eq (x := (xs (i + 3))) (tgt := 335) hx hb dL_law_328 (by decide) (fun c_328 => ?_) (fun c_328 => absurd c_295 c_328)
    refine lv_iconst (v := 0) hx hb dL_law_335 (by decide) ?_
    refine wr_V (As := [.int (xs (i + 1)), .int (xs (i + 2)), .int (bi false)]) (rest := []) (wr := (wXo qx F8 (nI n) Rx qo o8 cI cZ cL)) ⟨hx, hb, hml, hown, hts⟩ (c_X1_bar l D qm F n Rm th cI cZ _ (xs (i + 1)) (xs (i + 2)) false hw) (cwV 3 hts gL_law_X1_bar rfl rfl rfl (by decide +kernel) ⟨Nat.le_of_ble_eq_true rfl, Nat.le_of_ble_eq_true rfl⟩) (hK.sub [0, 1] rfl) hP hD (fun q h => h) [11, 12, 13, 14, 15, 16, 17, 18, 19, 20] [0, 1, 2, 3, 4, 5, 6, 7, 8, 9, 10] rfl rfl (by decide) rfl (by decide) (by decide) (va_recv hK hP (ci := 1) (q0 := 11) rfl rfl) hS rfl hl.1 rfl (Nat.le_of_ble_eq_true rfl) dL_law_336 ⟨by show _ ≤ 647008; omega, by show _ ≤ 7155079; omega⟩ (fun r9 u9 H locs h9 hP hD hS => ?_)
    obtain ⟨t9, F9⟩ := u9
    obtain ⟨h9a, h9b, h9c⟩ := h9
    obtain rfl : t9 = thBar (xs (i + 1)) (xs (i + 2)) := h9a
    have hP : va_P D vwCl (wAll qx F8 n Rx qo o8 qm F9 n Rm (thBar (xs (i + 1)) (xs (i + 2))) cI cZ cL) H := hP
    have hD : va_D (aL s) (wAll qx F8 n Rx qo o8 qm F9 n Rm (thBar (xs (i + 1)) (xs (i + 2))) cI cZ cL) := hD
    refine lv_istore (lv' := [(6, .int r9), (5, .int (thBar (xs (i + 1)) (xs (i + 2)))), (4, .int (nI i)), (0, .ref b), (1, .ref (qx 9)), (2, .ref (qm 9)), (3, .ref qo)]) hx hb dL_law_339 hl (by decide) rfl (fun ls hl => ?_)
    refine lv_aload_n hx hb dL_law_341 rfl (lv_at hl 5 rfl) ?_
    refine ro_V (As := []) (rest := []) ⟨hx, hb, hml, hown, hts⟩ (c_X1_thrown l D qm F9 n Rm (thBar (xs (i + 1)) (xs (i + 2))) cI cZ) (cwV 0 hts gL_law_X1_thrown rfl rfl rfl (by decide +kernel) ⟨Nat.le_of_ble_eq_true rfl, Nat.le_of_ble_eq_true rfl⟩) (hK.sub [0, 1] rfl) hP (hP.sub [11, 12, 13, 14, 15, 16, 17, 18, 19, 20] rfl) (va_recv hK hP (ci := 1) (q0 := 11) rfl rfl) hS rfl hl.1 rfl (Nat.le_of_ble_eq_true rfl) dL_law_342 ⟨by show _ ≤ 647008; omega, by show _ ≤ 7155079; omega⟩ (fun r H locs hr9 hP hS => ?_)
    subst hr9
    refine lv_iload hx hb dL_law_345 (lv_at hl 1 rfl) ?_
    refine lv_icmp_eq (x := (thBar (xs (i + 1)) (xs (i + 2)))) (y := (thBar (xs (i + 1)) (xs (i + 2)))) (tgt := 352) hx hb dL_law_347 (by decide) (fun c_347 => ?_) (fun c_347 => absurd rfl c_347)
    refine lv_iload hx hb dL_law_352 (lv_at hl 1 rfl) ?_
    refine lv_if_ne (x := (thBar (xs (i + 1)) (xs (i + 2)))) (tgt := 376) hx hb dL_law_354 (by decide) (fun c_354 => ?_) (fun c_354 => ?_)
    · obtain rfl : F = F8 := (h8c c_354).symm
      obtain rfl : F = F9 := (h9c c_354).symm
      have hP : va_P D vwCl (wAll qx F n Rx qo o8 qm F n Rm (thBar (xs (i + 1)) (xs (i + 2))) cI cZ cL) H := hP
      have hD : va_D (aL s) (wAll qx F n Rx qo o8 qm F n Rm (thBar (xs (i + 1)) (xs (i + 2))) cI cZ cL) := hD
      refine lv_goto (tgt := 1303) hx hb dL_law_376 (by decide) ?_
      refine lv_iinc (v := (nI (i + 4))) (lv' := [(4, .int (nI (i + 4))), (6, .int r9), (5, .int (thBar (xs (i + 1)) (xs (i + 2)))), (0, .ref b), (1, .ref (qx 9)), (2, .ref (qm 9)), (3, .ref qo)]) hx hb dL_law_1303 hl (k := 2) rfl (nI_add i 4) (by decide) rfl (fun ls hl => ?_)
      refine lv_goto (tgt := 23) hx hb dL_law_1306 (by decide) ?_
      refine W.widen (k := 21 + 2 * (i + 4)) (n := 462 + 8 * (i + 4)) (by omega) (by omega) ?_
      exact ih F n _ _ _ _ _ _ _ hw hs hP hD hS (lv_sub hl [0, 3, 4, 5, 6] rfl)
    · obtain ⟨e8, e8f⟩ := h8b c_354
      obtain ⟨e9, e9f⟩ := h9b c_354
      obtain rfl : F8 = (fBar F (xs (i + 1)) (xs (i + 2)) false) := e8f
      obtain rfl : F9 = (fBar F (xs (i + 1)) (xs (i + 2)) false) := e9f
      subst e9
      have hP : va_P D vwCl (wAll qx (fBar F (xs (i + 1)) (xs (i + 2)) false) n Rx qo o8 qm (fBar F (xs (i + 1)) (xs (i + 2)) false) n Rm (thBar (xs (i + 1)) (xs (i + 2))) cI cZ cL) H := hP
      have hD : va_D (aL s) (wAll qx (fBar F (xs (i + 1)) (xs (i + 2)) false) n Rx qo o8 qm (fBar F (xs (i + 1)) (xs (i + 2)) false) n Rm (thBar (xs (i + 1)) (xs (i + 2))) cI cZ cL) := hD
      refine lv_aload_n hx hb dL_law_357 rfl (lv_at hl 6 rfl) ?_
      refine lv_iconst (v := 0) hx hb dL_law_358 (by decide) ?_
      refine va_lald hx hb hK hP 10 2 rfl rfl (i := 0) in_01 dL_law_359 ?_
      refine lv_iload hx hb dL_law_360 (lv_at hl 0 rfl) ?_
      refine lv_if_eq (x := (F 3 ((xs (i + 1)) * 2 + (xs (i + 2))).toNatClampNeg)) (tgt := 369) hx hb dL_law_362 (by decide) (fun c_362 => ?_) (fun c_362 => ?_)
      · skip
        refine lv_lconst (v := 0) hx hb dL_law_369 rfl ?_
        refine W.lcmp hx hb dL_law_370 ?_
        refine W.eq (g2 := F0 m9 371 ls (.int 0 :: [])) (congrArg (fun z => F0 m9 371 ls (Value.int z :: [])) (lg_eq (e8.trans (if_pos c_362)))) ?_
        refine lv_if_eq (x := 0) (tgt := 376) hx hb dL_law_371 (by decide) (fun _ => ?_) (fun k => absurd (by decide) k)
        refine lv_goto (tgt := 1303) hx hb dL_law_376 (by decide) ?_
        refine lv_iinc (v := (nI (i + 4))) (lv' := [(4, .int (nI (i + 4))), (6, .int (F 3 ((xs (i + 1)) * 2 + (xs (i + 2))).toNatClampNeg)), (5, .int (thBar (xs (i + 1)) (xs (i + 2)))), (0, .ref b), (1, .ref (qx 9)), (2, .ref (qm 9)), (3, .ref qo)]) hx hb dL_law_1303 hl (k := 2) rfl (nI_add i 4) (by decide) rfl (fun ls hl => ?_)
        refine lv_goto (tgt := 23) hx hb dL_law_1306 (by decide) ?_
        refine W.widen (k := 21 + 2 * (i + 4)) (n := 462 + 8 * (i + 4)) (by omega) (by omega) ?_
        exact ih (fBar F (xs (i + 1)) (xs (i + 2)) false) n _ _ _ _ _ _ _ (wf_bar hw) (sy_bar hs) hP hD hS (lv_sub hl [0, 3, 4, 5, 6] rfl)
      · skip
        refine lv_lconst (v := 1) hx hb dL_law_365 rfl ?_
        refine lv_goto (tgt := 370) hx hb dL_law_366 (by decide) ?_
        refine W.lcmp hx hb dL_law_370 ?_
        refine W.eq (g2 := F0 m9 371 ls (.int 0 :: [])) (congrArg (fun z => F0 m9 371 ls (Value.int z :: [])) (lg_eq (e8.trans (if_neg c_362)))) ?_
        refine lv_if_eq (x := 0) (tgt := 376) hx hb dL_law_371 (by decide) (fun _ => ?_) (fun k => absurd (by decide) k)
        refine lv_goto (tgt := 1303) hx hb dL_law_376 (by decide) ?_
        refine lv_iinc (v := (nI (i + 4))) (lv' := [(4, .int (nI (i + 4))), (6, .int (F 3 ((xs (i + 1)) * 2 + (xs (i + 2))).toNatClampNeg)), (5, .int (thBar (xs (i + 1)) (xs (i + 2)))), (0, .ref b), (1, .ref (qx 9)), (2, .ref (qm 9)), (3, .ref qo)]) hx hb dL_law_1303 hl (k := 2) rfl (nI_add i 4) (by decide) rfl (fun ls hl => ?_)
        refine lv_goto (tgt := 23) hx hb dL_law_1306 (by decide) ?_
        refine W.widen (k := 21 + 2 * (i + 4)) (n := 462 + 8 * (i + 4)) (by omega) (by omega) ?_
        exact ih (fBar F (xs (i + 1)) (xs (i + 2)) false) n _ _ _ _ _ _ _ (wf_bar hw) (sy_bar hs) hP hD hS (lv_sub hl [0, 3, 4, 5, 6] rfl)
  · skip
    refine lv_iconst (v := 1) hx hb dL_law_298 (by decide) ?_
    refine lv_goto (tgt := 303) hx hb dL_law_299 (by decide) ?_
    refine lv_aload_n hx hb dL_law_303 rfl (lv_at hl 4 rfl) ?_
    refine l_S (As := [.ref (qx 9), .int (xs (i + 1)), .int (xs (i + 2)), .int (bi true), .ref qo]) (rest := []) (wr := wM qm F (nI n) Rm th cI cZ) ⟨hx, hb, hml, hown, hts⟩ (c_L_bar l hfl D qx F n Rx qo o cI cZ cL _ (xs (i + 1)) (xs (i + 2)) true hw) (vx_cwSW 5 hts gL_law_L_bar rfl rfl rfl (by decide +kernel) ⟨Nat.le_of_ble_eq_true rfl, Nat.le_of_ble_eq_true rfl⟩) hn9 ht hK hP hD [0, 1, 2, 3, 4, 5, 6, 7, 8, 9, 10] [11, 12, 13, 14, 15, 16, 17, 18, 19, 20] rfl rfl (by decide) rfl (by decide) (by decide) hS rfl hl.1 rfl (Nat.le_of_ble_eq_true rfl) dL_law_304 ⟨by show _ ≤ 647008; omega, by show _ ≤ 7155079; omega⟩ (fun r8 u8 H locs h8 hP hD hS => ?_)
    obtain ⟨F8, o8⟩ := u8
    obtain ⟨rfl, h8b, h8c⟩ := h8
    have hP : va_P D vwCl (wAll qx F8 n Rx qo o8 qm F n Rm th cI cZ cL) H := hP.sub [10, 11, 12, 13, 14, 15, 16, 17, 18, 19, 20, 0, 1, 2, 3, 4, 5, 6, 7, 8, 9] rfl
    have hD : va_D (aL s) (wAll qx F8 n Rx qo o8 qm F n Rm th cI cZ cL) := hD.sub [10, 11, 12, 13, 14, 15, 16, 17, 18, 19, 20, 0, 1, 2, 3, 4, 5, 6, 7, 8, 9] (by decide) rfl
    refine lv_istore (lv' := [(5, .int (thBar (xs (i + 1)) (xs (i + 2)))), (4, .int (nI i)), (0, .ref b), (1, .ref (qx 9)), (2, .ref (qm 9)), (3, .ref qo)]) hx hb dL_law_307 hl (by decide) rfl (fun ls hl => ?_)
    refine lv_aload_n hx hb dL_law_309 rfl (lv_at hl 4 rfl) ?_
    refine lv_aload_n hx hb dL_law_310 rfl (lv_at hl 2 rfl) ?_
    refine lv_iload hx hb dL_law_311 (lv_at hl 1 rfl) ?_
    refine lv_iconst (v := 1) hx hb dL_law_313 (by decide) ?_
    refine lv_iadd hx hb (x := (nI i)) (y := 1) dL_law_314 ?_
    refine W.eq (g2 := F0 m9 315 ls (.int (nI (i + 1)) :: [.ref b, .ref (qm 9)])) (congrArg (fun z => F0 m9 315 ls (Value.int z :: [.ref b, .ref (qm 9)])) (nI_add i 1)) ?_
    refine xsld hx hb hX hbl hbA hS (k := (i + 1)) (by omega) (by omega) dL_law_315 ?_
    refine lv_aload_n hx hb dL_law_316 rfl (lv_at hl 2 rfl) ?_
    refine lv_iload hx hb dL_law_317 (lv_at hl 1 rfl) ?_
    refine lv_iconst (v := 2) hx hb dL_law_319 (by decide) ?_
    refine lv_iadd hx hb (x := (nI i)) (y := 2) dL_law_320 ?_
    refine W.eq (g2 := F0 m9 321 ls (.int (nI (i + 2)) :: [.ref b, .int (xs (i + 1)), .ref (qm 9)])) (congrArg (fun z => F0 m9 321 ls (Value.int z :: [.ref b, .int (xs (i + 1)), .ref (qm 9)])) (nI_add i 2)) ?_
    refine xsld hx hb hX hbl hbA hS (k := (i + 2)) (by omega) (by omega) dL_law_321 ?_
    refine lv_aload_n hx hb dL_law_322 rfl (lv_at hl 2 rfl) ?_
    refine lv_iload hx hb dL_law_323 (lv_at hl 1 rfl) ?_
    refine lv_iconst (v := 3) hx hb dL_law_325 (by decide) ?_
    refine lv_iadd hx hb (x := (nI i)) (y := 3) dL_law_326 ?_
    refine W.eq (g2 := F0 m9 327 ls (.int (nI (i + 3)) :: [.ref b, .int (xs (i + 2)), .int (xs (i + 1)), .ref (qm 9)])) (congrArg (fun z => F0 m9 327 ls (Value.int z :: [.ref b, .int (xs (i + 2)), .int (xs (i + 1)), .ref (qm 9)])) (nI_add i 3)) ?_
    refine xsld hx hb hX hbl hbA hS (k := (i + 3)) (by omega) (by omega) dL_law_327 ?_
    refine lv_if_eq (x := (xs (i + 3))) (tgt := 335) hx hb dL_law_328 (by decide) (fun c_328 => absurd c_328 c_295) (fun c_328 => ?_)
    refine lv_iconst (v := 1) hx hb dL_law_331 (by decide) ?_
    refine lv_goto (tgt := 336) hx hb dL_law_332 (by decide) ?_
    refine wr_V (As := [.int (xs (i + 1)), .int (xs (i + 2)), .int (bi true)]) (rest := []) (wr := (wXo qx F8 (nI n) Rx qo o8 cI cZ cL)) ⟨hx, hb, hml, hown, hts⟩ (c_X1_bar l D qm F n Rm th cI cZ _ (xs (i + 1)) (xs (i + 2)) true hw) (cwV 3 hts gL_law_X1_bar rfl rfl rfl (by decide +kernel) ⟨Nat.le_of_ble_eq_true rfl, Nat.le_of_ble_eq_true rfl⟩) (hK.sub [0, 1] rfl) hP hD (fun q h => h) [11, 12, 13, 14, 15, 16, 17, 18, 19, 20] [0, 1, 2, 3, 4, 5, 6, 7, 8, 9, 10] rfl rfl (by decide) rfl (by decide) (by decide) (va_recv hK hP (ci := 1) (q0 := 11) rfl rfl) hS rfl hl.1 rfl (Nat.le_of_ble_eq_true rfl) dL_law_336 ⟨by show _ ≤ 647008; omega, by show _ ≤ 7155079; omega⟩ (fun r9 u9 H locs h9 hP hD hS => ?_)
    obtain ⟨t9, F9⟩ := u9
    obtain ⟨h9a, h9b, h9c⟩ := h9
    obtain rfl : t9 = thBar (xs (i + 1)) (xs (i + 2)) := h9a
    have hP : va_P D vwCl (wAll qx F8 n Rx qo o8 qm F9 n Rm (thBar (xs (i + 1)) (xs (i + 2))) cI cZ cL) H := hP
    have hD : va_D (aL s) (wAll qx F8 n Rx qo o8 qm F9 n Rm (thBar (xs (i + 1)) (xs (i + 2))) cI cZ cL) := hD
    refine lv_istore (lv' := [(6, .int r9), (5, .int (thBar (xs (i + 1)) (xs (i + 2)))), (4, .int (nI i)), (0, .ref b), (1, .ref (qx 9)), (2, .ref (qm 9)), (3, .ref qo)]) hx hb dL_law_339 hl (by decide) rfl (fun ls hl => ?_)
    refine lv_aload_n hx hb dL_law_341 rfl (lv_at hl 5 rfl) ?_
    refine ro_V (As := []) (rest := []) ⟨hx, hb, hml, hown, hts⟩ (c_X1_thrown l D qm F9 n Rm (thBar (xs (i + 1)) (xs (i + 2))) cI cZ) (cwV 0 hts gL_law_X1_thrown rfl rfl rfl (by decide +kernel) ⟨Nat.le_of_ble_eq_true rfl, Nat.le_of_ble_eq_true rfl⟩) (hK.sub [0, 1] rfl) hP (hP.sub [11, 12, 13, 14, 15, 16, 17, 18, 19, 20] rfl) (va_recv hK hP (ci := 1) (q0 := 11) rfl rfl) hS rfl hl.1 rfl (Nat.le_of_ble_eq_true rfl) dL_law_342 ⟨by show _ ≤ 647008; omega, by show _ ≤ 7155079; omega⟩ (fun r H locs hr9 hP hS => ?_)
    subst hr9
    refine lv_iload hx hb dL_law_345 (lv_at hl 1 rfl) ?_
    refine lv_icmp_eq (x := (thBar (xs (i + 1)) (xs (i + 2)))) (y := (thBar (xs (i + 1)) (xs (i + 2)))) (tgt := 352) hx hb dL_law_347 (by decide) (fun c_347 => ?_) (fun c_347 => absurd rfl c_347)
    refine lv_iload hx hb dL_law_352 (lv_at hl 1 rfl) ?_
    refine lv_if_ne (x := (thBar (xs (i + 1)) (xs (i + 2)))) (tgt := 376) hx hb dL_law_354 (by decide) (fun c_354 => ?_) (fun c_354 => ?_)
    · obtain rfl : F = F8 := (h8c c_354).symm
      obtain rfl : F = F9 := (h9c c_354).symm
      have hP : va_P D vwCl (wAll qx F n Rx qo o8 qm F n Rm (thBar (xs (i + 1)) (xs (i + 2))) cI cZ cL) H := hP
      have hD : va_D (aL s) (wAll qx F n Rx qo o8 qm F n Rm (thBar (xs (i + 1)) (xs (i + 2))) cI cZ cL) := hD
      refine lv_goto (tgt := 1303) hx hb dL_law_376 (by decide) ?_
      refine lv_iinc (v := (nI (i + 4))) (lv' := [(4, .int (nI (i + 4))), (6, .int r9), (5, .int (thBar (xs (i + 1)) (xs (i + 2)))), (0, .ref b), (1, .ref (qx 9)), (2, .ref (qm 9)), (3, .ref qo)]) hx hb dL_law_1303 hl (k := 2) rfl (nI_add i 4) (by decide) rfl (fun ls hl => ?_)
      refine lv_goto (tgt := 23) hx hb dL_law_1306 (by decide) ?_
      refine W.widen (k := 21 + 2 * (i + 4)) (n := 462 + 8 * (i + 4)) (by omega) (by omega) ?_
      exact ih F n _ _ _ _ _ _ _ hw hs hP hD hS (lv_sub hl [0, 3, 4, 5, 6] rfl)
    · obtain ⟨e8, e8f⟩ := h8b c_354
      obtain ⟨e9, e9f⟩ := h9b c_354
      obtain rfl : F8 = (fBar F (xs (i + 1)) (xs (i + 2)) true) := e8f
      obtain rfl : F9 = (fBar F (xs (i + 1)) (xs (i + 2)) true) := e9f
      subst e9
      have hP : va_P D vwCl (wAll qx (fBar F (xs (i + 1)) (xs (i + 2)) true) n Rx qo o8 qm (fBar F (xs (i + 1)) (xs (i + 2)) true) n Rm (thBar (xs (i + 1)) (xs (i + 2))) cI cZ cL) H := hP
      have hD : va_D (aL s) (wAll qx (fBar F (xs (i + 1)) (xs (i + 2)) true) n Rx qo o8 qm (fBar F (xs (i + 1)) (xs (i + 2)) true) n Rm (thBar (xs (i + 1)) (xs (i + 2))) cI cZ cL) := hD
      refine lv_aload_n hx hb dL_law_357 rfl (lv_at hl 6 rfl) ?_
      refine lv_iconst (v := 0) hx hb dL_law_358 (by decide) ?_
      refine va_lald hx hb hK hP 10 2 rfl rfl (i := 0) in_01 dL_law_359 ?_
      refine lv_iload hx hb dL_law_360 (lv_at hl 0 rfl) ?_
      refine lv_if_eq (x := (F 3 ((xs (i + 1)) * 2 + (xs (i + 2))).toNatClampNeg)) (tgt := 369) hx hb dL_law_362 (by decide) (fun c_362 => ?_) (fun c_362 => ?_)
      · skip
        refine lv_lconst (v := 0) hx hb dL_law_369 rfl ?_
        refine W.lcmp hx hb dL_law_370 ?_
        refine W.eq (g2 := F0 m9 371 ls (.int 0 :: [])) (congrArg (fun z => F0 m9 371 ls (Value.int z :: [])) (lg_eq (e8.trans (if_pos c_362)))) ?_
        refine lv_if_eq (x := 0) (tgt := 376) hx hb dL_law_371 (by decide) (fun _ => ?_) (fun k => absurd (by decide) k)
        refine lv_goto (tgt := 1303) hx hb dL_law_376 (by decide) ?_
        refine lv_iinc (v := (nI (i + 4))) (lv' := [(4, .int (nI (i + 4))), (6, .int (F 3 ((xs (i + 1)) * 2 + (xs (i + 2))).toNatClampNeg)), (5, .int (thBar (xs (i + 1)) (xs (i + 2)))), (0, .ref b), (1, .ref (qx 9)), (2, .ref (qm 9)), (3, .ref qo)]) hx hb dL_law_1303 hl (k := 2) rfl (nI_add i 4) (by decide) rfl (fun ls hl => ?_)
        refine lv_goto (tgt := 23) hx hb dL_law_1306 (by decide) ?_
        refine W.widen (k := 21 + 2 * (i + 4)) (n := 462 + 8 * (i + 4)) (by omega) (by omega) ?_
        exact ih (fBar F (xs (i + 1)) (xs (i + 2)) true) n _ _ _ _ _ _ _ (wf_bar hw) (sy_bar hs) hP hD hS (lv_sub hl [0, 3, 4, 5, 6] rfl)
      · skip
        refine lv_lconst (v := 1) hx hb dL_law_365 rfl ?_
        refine lv_goto (tgt := 370) hx hb dL_law_366 (by decide) ?_
        refine W.lcmp hx hb dL_law_370 ?_
        refine W.eq (g2 := F0 m9 371 ls (.int 0 :: [])) (congrArg (fun z => F0 m9 371 ls (Value.int z :: [])) (lg_eq (e8.trans (if_neg c_362)))) ?_
        refine lv_if_eq (x := 0) (tgt := 376) hx hb dL_law_371 (by decide) (fun _ => ?_) (fun k => absurd (by decide) k)
        refine lv_goto (tgt := 1303) hx hb dL_law_376 (by decide) ?_
        refine lv_iinc (v := (nI (i + 4))) (lv' := [(4, .int (nI (i + 4))), (6, .int (F 3 ((xs (i + 1)) * 2 + (xs (i + 2))).toNatClampNeg)), (5, .int (thBar (xs (i + 1)) (xs (i + 2)))), (0, .ref b), (1, .ref (qx 9)), (2, .ref (qm 9)), (3, .ref qo)]) hx hb dL_law_1303 hl (k := 2) rfl (nI_add i 4) (by decide) rfl (fun ls hl => ?_)
        refine lv_goto (tgt := 23) hx hb dL_law_1306 (by decide) ?_
        refine W.widen (k := 21 + 2 * (i + 4)) (n := 462 + 8 * (i + 4)) (by omega) (by omega) ?_
        exact ih (fBar F (xs (i + 1)) (xs (i + 2)) true) n _ _ _ _ _ _ _ (wf_bar hw) (sy_bar hs) hP hD hS (lv_sub hl [0, 3, 4, 5, 6] rfl)
set_option maxHeartbeats 4000000 in
set_option maxRecDepth 100000 in
theorem law_c3 {p9 : Program} {l : Launch} {e9 : Env} {s : State} {m9 : MethodId} {below : List Frame} {meth : Method} {c9 : Code} {b L : Nat} {xs : Nat → Int32} (hL : L ≤ 2048) (hfl : l.stackTraces = false) (C0 : lw_At p9 s m9 meth c9 b L xs) (ht : tB s) (hn9 : nC s) {D : va_G} {qx qm : Nat → Nat} {qo : Nat} {cI cZ cL : ClassId} (hK : va_K D vwCl (tIZL cI cZ cL) s) {i : Nat} (hi : i + 4 ≤ L) {F : Nat → Nat → Int32} {n : Nat} (hw : WF F n) (hs : SY F) {Rx Rm : Nat → Int32} {th : Int32} {o : Nat → Int64} {H : Heap} {locs : List Loc} {ls : Array Slot} (hP : va_P D vwCl (wAll qx F n Rx qo o qm F n Rm th cI cZ cL) H) (hD : va_D (aL s) (wAll qx F n Rx qo o qm F n Rm th cI cZ cL)) (hS : va_S (aL s) s.heap H locs) (hl : lv_has ls 7 [(4, .int (nI i)), (0, .ref b), (1, .ref (qx 9)), (2, .ref (qm 9)), (3, .ref qo)]) (ih : law_next p9 l e9 s m9 below meth c9 b D qx qm qo cI cZ cL (i + 4)) : W p9 l e9 room_1 s m9 #[Value.ref b] below meth c9 H locs (21 + 2 * i) (462 + 8 * i) (lw_Z below #[Value.ref b] s) (F0 m9 379 ls []) := by
  obtain ⟨hx, hb, hr, hml, hown0, hts0, hX, hbl, hlocks, hgv⟩ := id C0
  have hown : s.vm.findClass RL = some m9.cls := hown0
  have hts : ∀ w ∈ wsL_law, w.before #[Value.ref b] s = true := fun w h => hts0 w (wsL_law_in w h)
  have hbA : ¬ aL s b := Nat.not_le.mpr hbl
  refine lv_aload_n hx hb dL_law_379 rfl (lv_at hl 2 rfl) ?_
  refine lv_aload_n hx hb dL_law_380 rfl (lv_at hl 1 rfl) ?_
  refine lv_iload hx hb dL_law_381 (lv_at hl 0 rfl) ?_
  refine lv_iconst (v := 1) hx hb dL_law_383 (by decide) ?_
  refine lv_iadd hx hb (x := (nI i)) (y := 1) dL_law_384 ?_
  refine W.eq (g2 := F0 m9 385 ls (.int (nI (i + 1)) :: [.ref b, .ref (qx 9)])) (congrArg (fun z => F0 m9 385 ls (Value.int z :: [.ref b, .ref (qx 9)])) (nI_add i 1)) ?_
  refine xsld hx hb hX hbl hbA hS (k := (i + 1)) (by omega) (by omega) dL_law_385 ?_
  refine lv_aload_n hx hb dL_law_386 rfl (lv_at hl 1 rfl) ?_
  refine lv_iload hx hb dL_law_387 (lv_at hl 0 rfl) ?_
  refine lv_iconst (v := 2) hx hb dL_law_389 (by decide) ?_
  refine lv_iadd hx hb (x := (nI i)) (y := 2) dL_law_390 ?_
  refine W.eq (g2 := F0 m9 391 ls (.int (nI (i + 2)) :: [.ref b, .int (xs (i + 1)), .ref (qx 9)])) (congrArg (fun z => F0 m9 391 ls (Value.int z :: [.ref b, .int (xs (i + 1)), .ref (qx 9)])) (nI_add i 2)) ?_
  refine xsld hx hb hX hbl hbA hS (k := (i + 2)) (by omega) (by omega) dL_law_391 ?_
  refine lv_aload_n hx hb dL_law_392 rfl (lv_at hl 4 rfl) ?_
  refine l_S (As := [.ref (qx 9), .int (xs (i + 1)), .int (xs (i + 2)), .ref qo]) (rest := []) (wr := wM qm F (nI n) Rm th cI cZ) ⟨hx, hb, hml, hown, hts⟩ (c_L_distance l hfl D qx F n Rx qo o cI cZ cL _ (xs (i + 1)) (xs (i + 2)) hw) (vx_cwSW 4 hts gL_law_L_distance rfl rfl rfl (by decide +kernel) ⟨Nat.le_of_ble_eq_true rfl, Nat.le_of_ble_eq_true rfl⟩) hn9 ht hK hP hD [0, 1, 2, 3, 4, 5, 6, 7, 8, 9, 10] [11, 12, 13, 14, 15, 16, 17, 18, 19, 20] rfl rfl (by decide) rfl (by decide) (by decide) hS rfl hl.1 rfl (Nat.le_of_ble_eq_true rfl) dL_law_393 ⟨by show _ ≤ 647008; omega, by show _ ≤ 7155079; omega⟩ (fun r8 u8 H locs h8 hP hD hS => ?_)
  obtain ⟨rfl, h8b⟩ := h8
  have hP : va_P D vwCl (wAll qx F n Rx qo u8 qm F n Rm th cI cZ cL) H := hP.sub [10, 11, 12, 13, 14, 15, 16, 17, 18, 19, 20, 0, 1, 2, 3, 4, 5, 6, 7, 8, 9] rfl
  have hD : va_D (aL s) (wAll qx F n Rx qo u8 qm F n Rm th cI cZ cL) := hD.sub [10, 11, 12, 13, 14, 15, 16, 17, 18, 19, 20, 0, 1, 2, 3, 4, 5, 6, 7, 8, 9] (by decide) rfl
  refine lv_istore (lv' := [(5, .int (thD (xs (i + 1)) (xs (i + 2)))), (4, .int (nI i)), (0, .ref b), (1, .ref (qx 9)), (2, .ref (qm 9)), (3, .ref qo)]) hx hb dL_law_396 hl (by decide) rfl (fun ls hl => ?_)
  refine lv_aload_n hx hb dL_law_398 rfl (lv_at hl 4 rfl) ?_
  refine lv_aload_n hx hb dL_law_399 rfl (lv_at hl 2 rfl) ?_
  refine lv_iload hx hb dL_law_400 (lv_at hl 1 rfl) ?_
  refine lv_iconst (v := 1) hx hb dL_law_402 (by decide) ?_
  refine lv_iadd hx hb (x := (nI i)) (y := 1) dL_law_403 ?_
  refine W.eq (g2 := F0 m9 404 ls (.int (nI (i + 1)) :: [.ref b, .ref (qm 9)])) (congrArg (fun z => F0 m9 404 ls (Value.int z :: [.ref b, .ref (qm 9)])) (nI_add i 1)) ?_
  refine xsld hx hb hX hbl hbA hS (k := (i + 1)) (by omega) (by omega) dL_law_404 ?_
  refine lv_aload_n hx hb dL_law_405 rfl (lv_at hl 2 rfl) ?_
  refine lv_iload hx hb dL_law_406 (lv_at hl 1 rfl) ?_
  refine lv_iconst (v := 2) hx hb dL_law_408 (by decide) ?_
  refine lv_iadd hx hb (x := (nI i)) (y := 2) dL_law_409 ?_
  refine W.eq (g2 := F0 m9 410 ls (.int (nI (i + 2)) :: [.ref b, .int (xs (i + 1)), .ref (qm 9)])) (congrArg (fun z => F0 m9 410 ls (Value.int z :: [.ref b, .int (xs (i + 1)), .ref (qm 9)])) (nI_add i 2)) ?_
  refine xsld hx hb hX hbl hbA hS (k := (i + 2)) (by omega) (by omega) dL_law_410 ?_
  refine wr_V (As := [.int (xs (i + 1)), .int (xs (i + 2))]) (rest := []) (wr := (wXo qx F (nI n) Rx qo u8 cI cZ cL)) ⟨hx, hb, hml, hown, hts⟩ (c_X1_distance l D qm F n Rm th cI cZ _ (xs (i + 1)) (xs (i + 2))) (cwV 2 hts gL_law_X1_distance rfl rfl rfl (by decide +kernel) ⟨Nat.le_of_ble_eq_true rfl, Nat.le_of_ble_eq_true rfl⟩) (hK.sub [0, 1] rfl) hP hD (fun q h => h) [11, 12, 13, 14, 15, 16, 17, 18, 19, 20] [0, 1, 2, 3, 4, 5, 6, 7, 8, 9, 10] rfl rfl (by decide) rfl (by decide) (by decide) (va_recv hK hP (ci := 1) (q0 := 11) rfl rfl) hS rfl hl.1 rfl (Nat.le_of_ble_eq_true rfl) dL_law_411 ⟨by show _ ≤ 647008; omega, by show _ ≤ 7155079; omega⟩ (fun r9 u9 H locs h9 hP hD hS => ?_)
  obtain ⟨rfl, h9b⟩ := h9
  have hP : va_P D vwCl (wAll qx F n Rx qo u8 qm F n Rm (thD (xs (i + 1)) (xs (i + 2))) cI cZ cL) H := hP
  have hD : va_D (aL s) (wAll qx F n Rx qo u8 qm F n Rm (thD (xs (i + 1)) (xs (i + 2))) cI cZ cL) := hD
  refine lv_istore (lv' := [(6, .int r9), (5, .int (thD (xs (i + 1)) (xs (i + 2)))), (4, .int (nI i)), (0, .ref b), (1, .ref (qx 9)), (2, .ref (qm 9)), (3, .ref qo)]) hx hb dL_law_414 hl (by decide) rfl (fun ls hl => ?_)
  refine lv_aload_n hx hb dL_law_416 rfl (lv_at hl 5 rfl) ?_
  refine ro_V (As := []) (rest := []) ⟨hx, hb, hml, hown, hts⟩ (c_X1_thrown l D qm F n Rm (thD (xs (i + 1)) (xs (i + 2))) cI cZ) (cwV 0 hts gL_law_X1_thrown rfl rfl rfl (by decide +kernel) ⟨Nat.le_of_ble_eq_true rfl, Nat.le_of_ble_eq_true rfl⟩) (hK.sub [0, 1] rfl) hP (hP.sub [11, 12, 13, 14, 15, 16, 17, 18, 19, 20] rfl) (va_recv hK hP (ci := 1) (q0 := 11) rfl rfl) hS rfl hl.1 rfl (Nat.le_of_ble_eq_true rfl) dL_law_417 ⟨by show _ ≤ 647008; omega, by show _ ≤ 7155079; omega⟩ (fun r H locs hr9 hP hS => ?_)
  subst hr9
  refine lv_iload hx hb dL_law_420 (lv_at hl 1 rfl) ?_
  refine lv_icmp_eq (x := (thD (xs (i + 1)) (xs (i + 2)))) (y := (thD (xs (i + 1)) (xs (i + 2)))) (tgt := 427) hx hb dL_law_422 (by decide) (fun c_422 => ?_) (fun c_422 => absurd rfl c_422)
  refine lv_iload hx hb dL_law_427 (lv_at hl 1 rfl) ?_
  refine lv_if_ne (x := (thD (xs (i + 1)) (xs (i + 2)))) (tgt := 444) hx hb dL_law_429 (by decide) (fun c_429 => ?_) (fun c_429 => ?_)
  · skip
    refine lv_goto (tgt := 1303) hx hb dL_law_444 (by decide) ?_
    refine lv_iinc (v := (nI (i + 4))) (lv' := [(4, .int (nI (i + 4))), (6, .int r9), (5, .int (thD (xs (i + 1)) (xs (i + 2)))), (0, .ref b), (1, .ref (qx 9)), (2, .ref (qm 9)), (3, .ref qo)]) hx hb dL_law_1303 hl (k := 2) rfl (nI_add i 4) (by decide) rfl (fun ls hl => ?_)
    refine lv_goto (tgt := 23) hx hb dL_law_1306 (by decide) ?_
    refine W.widen (k := 21 + 2 * (i + 4)) (n := 462 + 8 * (i + 4)) (by omega) (by omega) ?_
    exact ih F n _ _ _ _ _ _ _ hw hs hP hD hS (lv_sub hl [0, 3, 4, 5, 6] rfl)
  · have e8 := h8b c_429
    have e9 := h9b c_429
    subst e9
    refine lv_aload_n hx hb dL_law_432 rfl (lv_at hl 6 rfl) ?_
    refine lv_iconst (v := 0) hx hb dL_law_433 (by decide) ?_
    refine va_lald hx hb hK hP 10 2 rfl rfl (i := 0) in_01 dL_law_434 ?_
    refine lv_iload hx hb dL_law_435 (lv_at hl 0 rfl) ?_
    refine lv_i2l hx hb dL_law_437 rfl ?_
    refine W.lcmp hx hb dL_law_438 ?_
    refine W.eq (g2 := F0 m9 439 ls (.int 0 :: [])) (congrArg (fun z => F0 m9 439 ls (Value.int z :: [])) (lg_eq (e8.trans (congrArg Int32.toInt64 (thD_of c_429))))) ?_
    refine lv_if_eq (x := 0) (tgt := 444) hx hb dL_law_439 (by decide) (fun _ => ?_) (fun k => absurd (by decide) k)
    refine lv_goto (tgt := 1303) hx hb dL_law_444 (by decide) ?_
    refine lv_iinc (v := (nI (i + 4))) (lv' := [(4, .int (nI (i + 4))), (6, .int (mApart (xs (i + 1)) (xs (i + 2)))), (5, .int (thD (xs (i + 1)) (xs (i + 2)))), (0, .ref b), (1, .ref (qx 9)), (2, .ref (qm 9)), (3, .ref qo)]) hx hb dL_law_1303 hl (k := 2) rfl (nI_add i 4) (by decide) rfl (fun ls hl => ?_)
    refine lv_goto (tgt := 23) hx hb dL_law_1306 (by decide) ?_
    refine W.widen (k := 21 + 2 * (i + 4)) (n := 462 + 8 * (i + 4)) (by omega) (by omega) ?_
    exact ih F n _ _ _ _ _ _ _ hw hs hP hD hS (lv_sub hl [0, 3, 4, 5, 6] rfl)

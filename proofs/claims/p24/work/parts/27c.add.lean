/-! goods are added -/
set_option maxHeartbeats 8000000 in
set_option maxRecDepth 100000 in
theorem law_a164 {p9 : Program} {l : Launch} {e9 : Env} {s : State} {m9 : MethodId} {below : List Frame} {meth : Method} {c9 : Code} {b L : Nat} {xs : Nat → Int32} {D : va_G} {q : Nat → Nat} {qt qo qg qm : Nat} {cI cZ : ClassId} (hL : L ≤ 260) (hfl : l.stackTraces = false) (C0 : lw_At p9 s m9 meth c9 b L xs) (htA : tBA (aL s) s) (hn9 : nC s) (hK : va_K D vwCl (tIZ cI cZ) s) {i x y : Nat} (hi : i < 70) (hx9 : x < 2 ^ 31) (hy : y < 67108864) (k745 : law_tail p9 l e9 s m9 below meth c9 b D q qt qo qg qm cI cZ i x y) {o1 o2 kk z : Nat} (h1 : 1 ≤ o1) (h2 : o1 ≤ 9) (h3 : 1 ≤ o2) (h4 : o2 ≤ 9) {F : Nat → Nat → Int32} {n : Nat} {Rv T M G C : Nat → Int32} {H : Heap} {locs : List Loc} {ls : Array Slot} (hn : n < 10) (hw : WF F n) (hs : SY F) (hv : IV F n T M G) (hm : C 0 = nI n) (hP : va_P D vwCl (wX q F (nI n) Rv cI cZ ++ [(qt, .inl (cI, 64, .inl (T))), (qo, .inl (cI, 30, .inl (M))), (qg, .inl (cI, 48, .inl (G))), (qm, .inl (cI, 1, .inl (C)))]) H) (hD : va_D (aL s) (wX q F (nI n) Rv cI cZ ++ [(qt, .inl (cI, 64, .inl (T))), (qo, .inl (cI, 30, .inl (M))), (qg, .inl (cI, 48, .inl (G))), (qm, .inl (cI, 1, .inl (C)))])) (hS : va_S (aL s) s.heap H locs) (hl : lv_has ls 17 [(7, .int (nI i)), (6, .int 1), (8, .int (nI x)), (9, .int (nI y)), (10, .int (nI z)), (11, .int (nI o1)), (12, .int (nI o2)), (13, .int (nI kk)), (0, .ref b), (1, .ref (q 9)), (2, .ref qt), (3, .ref qo), (4, .ref qg), (5, .ref qm)]) : W p9 l e9 room_1 s m9 #[Value.ref b] below meth c9 H locs (700 + 320 * i) (4000 + 1900 * i) (lw_Z below #[Value.ref b] s) (F0 m9 164 ls []) := by
  obtain ⟨hx, hb, hr, hml, hown0, hts0, hX, hbl, hlocks, hgv⟩ := id C0
  have hown : s.vm.findClass RL = some m9.cls := hown0
  have hts : ∀ w ∈ wsL_law, w.before #[Value.ref b] s = true := fun w h => hts0 w (wsL_law_in w h)
  have hA : ∀ q : Nat, s.heap.size ≤ q → aL s q := fun _ h => h
  have hbA : ¬ aL s b := Nat.not_le.mpr hbl
  have hn10 := hv.n
  have hn16 := hw.n
  refine lv_aload hx hb dL_law_164 (lv_at hl 13 rfl) ?_
  refine lv_iconst (v := 0) hx hb dL_law_166 (by decide) ?_
  refine xiald (g := 0) hx hb hK hP 13 0 rfl rfl (by omega) (by decide) dL_law_167 ?_
  refine W.eq (g2 := F0 m9 168 ls (.int (nI n) :: [])) (congrArg (fun z => F0 m9 168 ls (Value.int z :: [])) (hm)) ?_
  refine lv_istore (lv' := [(14, .int (nI n)), (7, .int (nI i)), (6, .int 1), (8, .int (nI x)), (9, .int (nI y)), (10, .int (nI z)), (11, .int (nI o1)), (12, .int (nI o2)), (13, .int (nI kk)), (0, .ref b), (1, .ref (q 9)), (2, .ref qt), (3, .ref qo), (4, .ref qg), (5, .ref qm)]) hx hb dL_law_168 hl (by decide) rfl (fun ls hl => ?_)
  have J193 : ∀ (sb : Int32) (H : Heap) (locs : List Loc) (ls : Array Slot), (sb = -1 ∨ (sb = nI o2 ∧ ¬ o1 = o2)) → va_P D vwCl (wX q F (nI n) Rv cI cZ ++ [(qt, .inl (cI, 64, .inl (T))), (qo, .inl (cI, 30, .inl (M))), (qg, .inl (cI, 48, .inl (G))), (qm, .inl (cI, 1, .inl (C)))]) H → va_D (aL s) (wX q F (nI n) Rv cI cZ ++ [(qt, .inl (cI, 64, .inl (T))), (qo, .inl (cI, 30, .inl (M))), (qg, .inl (cI, 48, .inl (G))), (qm, .inl (cI, 1, .inl (C)))]) → va_S (aL s) s.heap H locs → lv_has ls 17 [(14, .int (nI n)), (7, .int (nI i)), (6, .int 1), (8, .int (nI x)), (9, .int (nI y)), (10, .int (nI z)), (11, .int (nI o1)), (12, .int (nI o2)), (13, .int (nI kk)), (0, .ref b), (1, .ref (q 9)), (2, .ref qt), (3, .ref qo), (4, .ref qg), (5, .ref qm)] → W p9 l e9 room_1 s m9 #[Value.ref b] below meth c9 H locs (700 + 320 * i) (4000 + 1900 * i) (lw_Z below #[Value.ref b] s) (F0 m9 193 ls [.int sb]) := by
    intro sb H locs ls hsb hP hD hS hl
    refine lv_istore (lv' := [(15, .int sb), (14, .int (nI n)), (7, .int (nI i)), (6, .int 1), (8, .int (nI x)), (9, .int (nI y)), (10, .int (nI z)), (11, .int (nI o1)), (12, .int (nI o2)), (13, .int (nI kk)), (0, .ref b), (1, .ref (q 9)), (2, .ref qt), (3, .ref qo), (4, .ref qg), (5, .ref qm)]) hx hb dL_law_193 hl (by decide) rfl (fun ls hl => ?_)
    have J217 : ∀ (dd : Nat) (H : Heap) (locs : List Loc) (ls : Array Slot), (0 < dd ∧ dd ≤ 10000) → va_P D vwCl (wX q F (nI n) Rv cI cZ ++ [(qt, .inl (cI, 64, .inl (T))), (qo, .inl (cI, 30, .inl (M))), (qg, .inl (cI, 48, .inl (G))), (qm, .inl (cI, 1, .inl (C)))]) H → va_D (aL s) (wX q F (nI n) Rv cI cZ ++ [(qt, .inl (cI, 64, .inl (T))), (qo, .inl (cI, 30, .inl (M))), (qg, .inl (cI, 48, .inl (G))), (qm, .inl (cI, 1, .inl (C)))]) → va_S (aL s) s.heap H locs → lv_has ls 17 [(15, .int sb), (14, .int (nI n)), (7, .int (nI i)), (6, .int 1), (8, .int (nI x)), (9, .int (nI y)), (10, .int (nI z)), (11, .int (nI o1)), (12, .int (nI o2)), (13, .int (nI kk)), (0, .ref b), (1, .ref (q 9)), (2, .ref qt), (3, .ref qo), (4, .ref qg), (5, .ref qm)] → W p9 l e9 room_1 s m9 #[Value.ref b] below meth c9 H locs (700 + 320 * i) (4000 + 1900 * i) (lw_Z below #[Value.ref b] s) (F0 m9 217 ls [.int (nI dd), .int (nI (y / 162)), .int 1]) := by
      intro dd H locs ls hdd hP hD hS hl
      refine lv_irem hx hb (x := (nI (y / 162))) (y := (nI dd)) dL_law_217 (nI_ne0 (by omega) (by omega)) ?_
      refine W.eq (g2 := F0 m9 218 ls (.int (nI ((y / 162) % dd)) :: [.int 1])) (congrArg (fun z => F0 m9 218 ls (Value.int z :: [.int 1])) (pk_rem (a := (y / 162)) (d := dd) (by omega) (by omega) (by omega))) ?_
      refine lv_iadd hx hb (x := 1) (y := (nI ((y / 162) % dd))) dL_law_218 ?_
      refine W.eq (g2 := F0 m9 219 ls (.int (nI (1 + ((y / 162) % dd))) :: [])) (congrArg (fun z => F0 m9 219 ls (Value.int z :: [])) (nI_add 1 ((y / 162) % dd))) ?_
      refine lv_istore (lv' := [(16, .int (nI (1 + ((y / 162) % dd)))), (15, .int sb), (14, .int (nI n)), (7, .int (nI i)), (6, .int 1), (8, .int (nI x)), (9, .int (nI y)), (10, .int (nI z)), (11, .int (nI o1)), (12, .int (nI o2)), (13, .int (nI kk)), (0, .ref b), (1, .ref (q 9)), (2, .ref qt), (3, .ref qo), (4, .ref qg), (5, .ref qm)]) hx hb dL_law_219 hl (by decide) rfl (fun ls hl => ?_)
      have hq1 : 1 ≤ 1 + y / 162 % dd ∧ 1 + y / 162 % dd ≤ 10000 := ⟨by omega, by have := Nat.mod_lt (y / 162) hdd.1; omega⟩
      generalize 1 + y / 162 % dd = qn at hq1 hl
      rcases hsb with rfl | ⟨rfl, hne⟩
      · skip
        refine lv_aload hx hb dL_law_221 (lv_at hl 15 rfl) ?_
        refine lv_iconst (v := 3) hx hb dL_law_223 (by decide) ?_
        refine lv_iload hx hb dL_law_224 (lv_at hl 2 rfl) ?_
        refine lv_imul hx hb (x := 3) (y := (nI n)) dL_law_226 ?_
        refine W.eq (g2 := F0 m9 227 ls (.int (nI (3 * n)) :: [.ref qg])) (congrArg (fun z => F0 m9 227 ls (Value.int z :: [.ref qg])) (pk_mul 3 n)) ?_
        refine lv_iload hx hb dL_law_227 (lv_at hl 8 rfl) ?_
        refine xiast (g := (3 * n)) (x := (nI o1)) hx hb hK hP hD hS 12 0 rfl rfl (by omega) (by decide) dL_law_229 (fun H locs hP hD hS => ?_)
        have hP : va_P D vwCl (wX q F (nI n) Rv cI cZ ++ [(qt, .inl (cI, 64, .inl (T))), (qo, .inl (cI, 30, .inl (M))), (qg, .inl (cI, 48, .inl (upd G (3 * n) (nI o1)))), (qm, .inl (cI, 1, .inl (C)))]) H := hP
        have hD : va_D (aL s) (wX q F (nI n) Rv cI cZ ++ [(qt, .inl (cI, 64, .inl (T))), (qo, .inl (cI, 30, .inl (M))), (qg, .inl (cI, 48, .inl (upd G (3 * n) (nI o1)))), (qm, .inl (cI, 1, .inl (C)))]) := hD
        refine lv_aload hx hb dL_law_230 (lv_at hl 15 rfl) ?_
        refine lv_iconst (v := 3) hx hb dL_law_232 (by decide) ?_
        refine lv_iload hx hb dL_law_233 (lv_at hl 2 rfl) ?_
        refine lv_imul hx hb (x := 3) (y := (nI n)) dL_law_235 ?_
        refine W.eq (g2 := F0 m9 236 ls (.int (nI (3 * n)) :: [.ref qg])) (congrArg (fun z => F0 m9 236 ls (Value.int z :: [.ref qg])) (pk_mul 3 n)) ?_
        refine lv_iconst (v := 1) hx hb dL_law_236 (by decide) ?_
        refine lv_iadd hx hb (x := (nI (3 * n))) (y := 1) dL_law_237 ?_
        refine W.eq (g2 := F0 m9 238 ls (.int (nI ((3 * n) + 1)) :: [.ref qg])) (congrArg (fun z => F0 m9 238 ls (Value.int z :: [.ref qg])) (nI_add (3 * n) 1)) ?_
        refine lv_iload hx hb dL_law_238 (lv_at hl 1 rfl) ?_
        refine lv_if_ge (x := (-1)) (tgt := 247) hx hb dL_law_240 (by decide) (fun k => absurd k (by decide)) (fun _ => ?_)
        refine lv_iconst (v := 0) hx hb dL_law_243 (by decide) ?_
        refine lv_goto (tgt := 249) hx hb dL_law_244 (by decide) ?_
        refine xiast (g := ((3 * n) + 1)) (x := 0) hx hb hK hP hD hS 12 0 rfl rfl (by omega) (by decide) dL_law_249 (fun H locs hP hD hS => ?_)
        have hP : va_P D vwCl (wX q F (nI n) Rv cI cZ ++ [(qt, .inl (cI, 64, .inl (T))), (qo, .inl (cI, 30, .inl (M))), (qg, .inl (cI, 48, .inl (upd (upd G (3 * n) (nI o1)) ((3 * n) + 1) 0))), (qm, .inl (cI, 1, .inl (C)))]) H := hP
        have hD : va_D (aL s) (wX q F (nI n) Rv cI cZ ++ [(qt, .inl (cI, 64, .inl (T))), (qo, .inl (cI, 30, .inl (M))), (qg, .inl (cI, 48, .inl (upd (upd G (3 * n) (nI o1)) ((3 * n) + 1) 0))), (qm, .inl (cI, 1, .inl (C)))]) := hD
        refine lv_aload hx hb dL_law_250 (lv_at hl 15 rfl) ?_
        refine lv_iconst (v := 3) hx hb dL_law_252 (by decide) ?_
        refine lv_iload hx hb dL_law_253 (lv_at hl 2 rfl) ?_
        refine lv_imul hx hb (x := 3) (y := (nI n)) dL_law_255 ?_
        refine W.eq (g2 := F0 m9 256 ls (.int (nI (3 * n)) :: [.ref qg])) (congrArg (fun z => F0 m9 256 ls (Value.int z :: [.ref qg])) (pk_mul 3 n)) ?_
        refine lv_iconst (v := 2) hx hb dL_law_256 (by decide) ?_
        refine lv_iadd hx hb (x := (nI (3 * n))) (y := 2) dL_law_257 ?_
        refine W.eq (g2 := F0 m9 258 ls (.int (nI ((3 * n) + 2)) :: [.ref qg])) (congrArg (fun z => F0 m9 258 ls (Value.int z :: [.ref qg])) (nI_add (3 * n) 2)) ?_
        refine lv_iload hx hb dL_law_258 (lv_at hl 0 rfl) ?_
        refine xiast (g := ((3 * n) + 2)) (x := (nI qn)) hx hb hK hP hD hS 12 0 rfl rfl (by omega) (by decide) dL_law_260 (fun H locs hP hD hS => ?_)
        have hP : va_P D vwCl (wX q F (nI n) Rv cI cZ ++ [(qt, .inl (cI, 64, .inl (T))), (qo, .inl (cI, 30, .inl (M))), (qg, .inl (cI, 48, .inl (upd (upd (upd G (3 * n) (nI o1)) ((3 * n) + 1) 0) ((3 * n) + 2) (nI qn)))), (qm, .inl (cI, 1, .inl (C)))]) H := hP
        have hD : va_D (aL s) (wX q F (nI n) Rv cI cZ ++ [(qt, .inl (cI, 64, .inl (T))), (qo, .inl (cI, 30, .inl (M))), (qg, .inl (cI, 48, .inl (upd (upd (upd G (3 * n) (nI o1)) ((3 * n) + 1) 0) ((3 * n) + 2) (nI qn)))), (qm, .inl (cI, 1, .inl (C)))]) := hD
        refine lv_aload hx hb dL_law_261 (lv_at hl 16 rfl) ?_
        refine lv_iconst (v := 0) hx hb dL_law_263 (by decide) ?_
        refine lv_dup2_11 hx hb dL_law_264 rfl rfl ?_
        refine xiald (g := 0) hx hb hK hP 13 0 rfl rfl (by omega) (by decide) dL_law_265 ?_
        refine W.eq (g2 := F0 m9 266 ls (.int (nI n) :: [.int 0, .ref qm])) (congrArg (fun z => F0 m9 266 ls (Value.int z :: [.int 0, .ref qm])) (hm)) ?_
        refine lv_iconst (v := 1) hx hb dL_law_266 (by decide) ?_
        refine lv_iadd hx hb (x := (nI n)) (y := 1) dL_law_267 ?_
        refine W.eq (g2 := F0 m9 268 ls (.int (nI (n + 1)) :: [.int 0, .ref qm])) (congrArg (fun z => F0 m9 268 ls (Value.int z :: [.int 0, .ref qm])) (nI_add n 1)) ?_
        refine xiast (g := 0) (x := (nI (n + 1))) hx hb hK hP hD hS 13 0 rfl rfl (by omega) (by decide) dL_law_268 (fun H locs hP hD hS => ?_)
        have hP : va_P D vwCl (wX q F (nI n) Rv cI cZ ++ [(qt, .inl (cI, 64, .inl (T))), (qo, .inl (cI, 30, .inl (M))), (qg, .inl (cI, 48, .inl (upd (upd (upd G (3 * n) (nI o1)) ((3 * n) + 1) 0) ((3 * n) + 2) (nI qn)))), (qm, .inl (cI, 1, .inl (upd C 0 (nI (n + 1)))))]) H := hP
        have hD : va_D (aL s) (wX q F (nI n) Rv cI cZ ++ [(qt, .inl (cI, 64, .inl (T))), (qo, .inl (cI, 30, .inl (M))), (qg, .inl (cI, 48, .inl (upd (upd (upd G (3 * n) (nI o1)) ((3 * n) + 1) 0) ((3 * n) + 2) (nI qn)))), (qm, .inl (cI, 1, .inl (upd C 0 (nI (n + 1)))))]) := hD
        refine lv_aload_n hx hb dL_law_269 rfl (lv_at hl 12 rfl) ?_
        refine lv_iconst (v := 3) hx hb dL_law_270 (by decide) ?_
        refine lv_iload hx hb dL_law_271 (lv_at hl 8 rfl) ?_
        refine lv_iload hx hb dL_law_273 (lv_at hl 1 rfl) ?_
        refine lv_iload hx hb dL_law_275 (lv_at hl 0 rfl) ?_
        refine la_SW (As := [.ref (q 9), .int 3, .int (nI o1), .int (-1), .int (nI qn)]) (rest := []) (wr := [(qt, .inl (cI, 64, .inl (T))), (qo, .inl (cI, 30, .inl (M))), (qg, .inl (cI, 48, .inl (upd (upd (upd G (3 * n) (nI o1)) ((3 * n) + 1) 0) ((3 * n) + 2) (nI qn)))), (qm, .inl (cI, 1, .inl (upd C 0 (nI (n + 1)))))]) ⟨hx, hb, hml, hown, hts⟩ (c_L_rule_add l hfl D q F n Rv cI cZ _ (nI o1) (-1) (nI qn) hw) (vx_cwSW 5 hts gL_law_L_rule rfl rfl rfl (by decide +kernel) ⟨Nat.le_of_ble_eq_true rfl, Nat.le_of_ble_eq_true rfl⟩) hn9 htA hK hP hD hA [0, 1, 2, 3, 4, 5, 6, 7, 8, 9] [10, 11, 12, 13] rfl rfl (by decide) rfl (by decide) (by decide) hS rfl hl.1 rfl (Nat.le_of_ble_eq_true rfl) dL_law_277 ⟨by show _ ≤ 600130; omega, by show _ ≤ 7301080; omega⟩ (fun r9 u9 H locs h_277 hP hD hS => ?_)
        obtain ⟨F8, n8⟩ := u9
        obtain ⟨h9a, h9b, h9c⟩ := h_277.1 (thAdd_0 (cl_in h1 h2) sub_a (qn_in hq1.1 hq1.2) (by omega))
        subst h9a
        obtain rfl : F8 = (fAdd F n (nI o1) (-1) (nI qn)) := h9b
        obtain rfl : n8 = n + 1 := h9c
        have hP : va_P D vwCl (wX q (fAdd F n (nI o1) (-1) (nI qn)) (nI (n + 1)) Rv cI cZ ++ [(qt, .inl (cI, 64, .inl (T))), (qo, .inl (cI, 30, .inl (M))), (qg, .inl (cI, 48, .inl (upd (upd (upd G (3 * n) (nI o1)) ((3 * n) + 1) 0) ((3 * n) + 2) (nI qn)))), (qm, .inl (cI, 1, .inl (upd C 0 (nI (n + 1)))))]) H := hP.sub [4, 5, 6, 7, 8, 9, 10, 11, 12, 13, 0, 1, 2, 3] rfl
        have hD : va_D (aL s) (wX q (fAdd F n (nI o1) (-1) (nI qn)) (nI (n + 1)) Rv cI cZ ++ [(qt, .inl (cI, 64, .inl (T))), (qo, .inl (cI, 30, .inl (M))), (qg, .inl (cI, 48, .inl (upd (upd (upd G (3 * n) (nI o1)) ((3 * n) + 1) 0) ((3 * n) + 2) (nI qn)))), (qm, .inl (cI, 1, .inl (upd C 0 (nI (n + 1)))))]) := hD.sub [4, 5, 6, 7, 8, 9, 10, 11, 12, 13, 0, 1, 2, 3] (by decide) rfl
        refine lv_iload hx hb dL_law_280 (lv_at hl 2 rfl) ?_
        refine lv_icmp_ne (x := (nI n)) (y := (nI n)) (tgt := 299) hx hb dL_law_282 (by decide) (fun k => (k rfl : False).elim) (fun c_282 => ?_)
        refine lv_aload_n hx hb dL_law_285 rfl (lv_at hl 12 rfl) ?_
        refine lv_iload hx hb dL_law_286 (lv_at hl 2 rfl) ?_
        refine ro_V (As := [.int (nI n)]) (rest := []) ⟨hx, hb, hml, hown, hts⟩ (v_placeOf l D q (fAdd F n (nI o1) (-1) (nI qn)) (n + 1) Rv cI cZ n (wf_add hw (thAdd_0 (cl_in h1 h2) sub_a (qn_in hq1.1 hq1.2) (by omega))) (by omega)) (cwV 1 hts gL_law_X0_placeOf rfl rfl rfl (by decide +kernel) ⟨Nat.le_of_ble_eq_true rfl, Nat.le_of_ble_eq_true rfl⟩) hK hP (hP.sub [0, 1, 2, 3, 4, 5, 6, 7, 8, 9] rfl) (va_recv hK hP (ci := 0) (q0 := 0) rfl rfl) hS rfl hl.1 rfl (Nat.le_of_ble_eq_true rfl) dL_law_288 ⟨by show _ ≤ 600130; omega, by show _ ≤ 7301080; omega⟩ (fun r9 H locs h_288 hP hS => ?_)
        obtain rfl := h_288
        refine W.eq (g2 := F0 m9 291 ls (.int (-1) :: [])) (congrArg (fun z => F0 m9 291 ls (Value.int z :: [])) (pk_us)) ?_
        refine lv_iconst (v := (-1)) hx hb dL_law_291 (by decide) ?_
        refine lv_icmp_ne (x := (-1)) (y := (-1)) (tgt := 299) hx hb dL_law_292 (by decide) (fun k => absurd (by decide) k) (fun _ => ?_)
        refine lv_iconst (v := 1) hx hb dL_law_295 (by decide) ?_
        refine lv_goto (tgt := 300) hx hb dL_law_296 (by decide) ?_
        refine lv_istore (lv' := [(6, .int 1), (16, .int (nI qn)), (15, .int (-1)), (14, .int (nI n)), (7, .int (nI i)), (8, .int (nI x)), (9, .int (nI y)), (10, .int (nI z)), (11, .int (nI o1)), (12, .int (nI o2)), (13, .int (nI kk)), (0, .ref b), (1, .ref (q 9)), (2, .ref qt), (3, .ref qo), (4, .ref qg), (5, .ref qm)]) hx hb dL_law_300 hl (by decide) rfl (fun ls hl => ?_)
        refine lv_goto (tgt := 745) hx hb dL_law_302 (by decide) ?_
        refine W.widen (k := 710 + 320 * i) (n := 4040 + 1900 * i) (by omega) (by omega) ?_
        exact k745 _ _ _ _ _ _ _ _ _ _ (wf_add hw (thAdd_0 (cl_in h1 h2) sub_a (qn_in hq1.1 hq1.2) (by omega))) (sy_add hs) (iv_add hv hn rfl) pk_us hP hD hS (lv_sub hl [4, 0, 5, 6, 11, 12, 13, 14, 15, 16] rfl)
      · skip
        refine lv_aload hx hb dL_law_221 (lv_at hl 15 rfl) ?_
        refine lv_iconst (v := 3) hx hb dL_law_223 (by decide) ?_
        refine lv_iload hx hb dL_law_224 (lv_at hl 2 rfl) ?_
        refine lv_imul hx hb (x := 3) (y := (nI n)) dL_law_226 ?_
        refine W.eq (g2 := F0 m9 227 ls (.int (nI (3 * n)) :: [.ref qg])) (congrArg (fun z => F0 m9 227 ls (Value.int z :: [.ref qg])) (pk_mul 3 n)) ?_
        refine lv_iload hx hb dL_law_227 (lv_at hl 8 rfl) ?_
        refine xiast (g := (3 * n)) (x := (nI o1)) hx hb hK hP hD hS 12 0 rfl rfl (by omega) (by decide) dL_law_229 (fun H locs hP hD hS => ?_)
        have hP : va_P D vwCl (wX q F (nI n) Rv cI cZ ++ [(qt, .inl (cI, 64, .inl (T))), (qo, .inl (cI, 30, .inl (M))), (qg, .inl (cI, 48, .inl (upd G (3 * n) (nI o1)))), (qm, .inl (cI, 1, .inl (C)))]) H := hP
        have hD : va_D (aL s) (wX q F (nI n) Rv cI cZ ++ [(qt, .inl (cI, 64, .inl (T))), (qo, .inl (cI, 30, .inl (M))), (qg, .inl (cI, 48, .inl (upd G (3 * n) (nI o1)))), (qm, .inl (cI, 1, .inl (C)))]) := hD
        refine lv_aload hx hb dL_law_230 (lv_at hl 15 rfl) ?_
        refine lv_iconst (v := 3) hx hb dL_law_232 (by decide) ?_
        refine lv_iload hx hb dL_law_233 (lv_at hl 2 rfl) ?_
        refine lv_imul hx hb (x := 3) (y := (nI n)) dL_law_235 ?_
        refine W.eq (g2 := F0 m9 236 ls (.int (nI (3 * n)) :: [.ref qg])) (congrArg (fun z => F0 m9 236 ls (Value.int z :: [.ref qg])) (pk_mul 3 n)) ?_
        refine lv_iconst (v := 1) hx hb dL_law_236 (by decide) ?_
        refine lv_iadd hx hb (x := (nI (3 * n))) (y := 1) dL_law_237 ?_
        refine W.eq (g2 := F0 m9 238 ls (.int (nI ((3 * n) + 1)) :: [.ref qg])) (congrArg (fun z => F0 m9 238 ls (Value.int z :: [.ref qg])) (nI_add (3 * n) 1)) ?_
        refine lv_iload hx hb dL_law_238 (lv_at hl 1 rfl) ?_
        refine lv_if_ge (x := (nI o2)) (tgt := 247) hx hb dL_law_240 (by decide) (fun c_240 => ?_) (fun k => (k (nI_pos' (by omega)) : False).elim)
        refine lv_iload hx hb dL_law_247 (lv_at hl 1 rfl) ?_
        refine xiast (g := ((3 * n) + 1)) (x := (nI o2)) hx hb hK hP hD hS 12 0 rfl rfl (by omega) (by decide) dL_law_249 (fun H locs hP hD hS => ?_)
        have hP : va_P D vwCl (wX q F (nI n) Rv cI cZ ++ [(qt, .inl (cI, 64, .inl (T))), (qo, .inl (cI, 30, .inl (M))), (qg, .inl (cI, 48, .inl (upd (upd G (3 * n) (nI o1)) ((3 * n) + 1) (nI o2)))), (qm, .inl (cI, 1, .inl (C)))]) H := hP
        have hD : va_D (aL s) (wX q F (nI n) Rv cI cZ ++ [(qt, .inl (cI, 64, .inl (T))), (qo, .inl (cI, 30, .inl (M))), (qg, .inl (cI, 48, .inl (upd (upd G (3 * n) (nI o1)) ((3 * n) + 1) (nI o2)))), (qm, .inl (cI, 1, .inl (C)))]) := hD
        refine lv_aload hx hb dL_law_250 (lv_at hl 15 rfl) ?_
        refine lv_iconst (v := 3) hx hb dL_law_252 (by decide) ?_
        refine lv_iload hx hb dL_law_253 (lv_at hl 2 rfl) ?_
        refine lv_imul hx hb (x := 3) (y := (nI n)) dL_law_255 ?_
        refine W.eq (g2 := F0 m9 256 ls (.int (nI (3 * n)) :: [.ref qg])) (congrArg (fun z => F0 m9 256 ls (Value.int z :: [.ref qg])) (pk_mul 3 n)) ?_
        refine lv_iconst (v := 2) hx hb dL_law_256 (by decide) ?_
        refine lv_iadd hx hb (x := (nI (3 * n))) (y := 2) dL_law_257 ?_
        refine W.eq (g2 := F0 m9 258 ls (.int (nI ((3 * n) + 2)) :: [.ref qg])) (congrArg (fun z => F0 m9 258 ls (Value.int z :: [.ref qg])) (nI_add (3 * n) 2)) ?_
        refine lv_iload hx hb dL_law_258 (lv_at hl 0 rfl) ?_
        refine xiast (g := ((3 * n) + 2)) (x := (nI qn)) hx hb hK hP hD hS 12 0 rfl rfl (by omega) (by decide) dL_law_260 (fun H locs hP hD hS => ?_)
        have hP : va_P D vwCl (wX q F (nI n) Rv cI cZ ++ [(qt, .inl (cI, 64, .inl (T))), (qo, .inl (cI, 30, .inl (M))), (qg, .inl (cI, 48, .inl (upd (upd (upd G (3 * n) (nI o1)) ((3 * n) + 1) (nI o2)) ((3 * n) + 2) (nI qn)))), (qm, .inl (cI, 1, .inl (C)))]) H := hP
        have hD : va_D (aL s) (wX q F (nI n) Rv cI cZ ++ [(qt, .inl (cI, 64, .inl (T))), (qo, .inl (cI, 30, .inl (M))), (qg, .inl (cI, 48, .inl (upd (upd (upd G (3 * n) (nI o1)) ((3 * n) + 1) (nI o2)) ((3 * n) + 2) (nI qn)))), (qm, .inl (cI, 1, .inl (C)))]) := hD
        refine lv_aload hx hb dL_law_261 (lv_at hl 16 rfl) ?_
        refine lv_iconst (v := 0) hx hb dL_law_263 (by decide) ?_
        refine lv_dup2_11 hx hb dL_law_264 rfl rfl ?_
        refine xiald (g := 0) hx hb hK hP 13 0 rfl rfl (by omega) (by decide) dL_law_265 ?_
        refine W.eq (g2 := F0 m9 266 ls (.int (nI n) :: [.int 0, .ref qm])) (congrArg (fun z => F0 m9 266 ls (Value.int z :: [.int 0, .ref qm])) (hm)) ?_
        refine lv_iconst (v := 1) hx hb dL_law_266 (by decide) ?_
        refine lv_iadd hx hb (x := (nI n)) (y := 1) dL_law_267 ?_
        refine W.eq (g2 := F0 m9 268 ls (.int (nI (n + 1)) :: [.int 0, .ref qm])) (congrArg (fun z => F0 m9 268 ls (Value.int z :: [.int 0, .ref qm])) (nI_add n 1)) ?_
        refine xiast (g := 0) (x := (nI (n + 1))) hx hb hK hP hD hS 13 0 rfl rfl (by omega) (by decide) dL_law_268 (fun H locs hP hD hS => ?_)
        have hP : va_P D vwCl (wX q F (nI n) Rv cI cZ ++ [(qt, .inl (cI, 64, .inl (T))), (qo, .inl (cI, 30, .inl (M))), (qg, .inl (cI, 48, .inl (upd (upd (upd G (3 * n) (nI o1)) ((3 * n) + 1) (nI o2)) ((3 * n) + 2) (nI qn)))), (qm, .inl (cI, 1, .inl (upd C 0 (nI (n + 1)))))]) H := hP
        have hD : va_D (aL s) (wX q F (nI n) Rv cI cZ ++ [(qt, .inl (cI, 64, .inl (T))), (qo, .inl (cI, 30, .inl (M))), (qg, .inl (cI, 48, .inl (upd (upd (upd G (3 * n) (nI o1)) ((3 * n) + 1) (nI o2)) ((3 * n) + 2) (nI qn)))), (qm, .inl (cI, 1, .inl (upd C 0 (nI (n + 1)))))]) := hD
        refine lv_aload_n hx hb dL_law_269 rfl (lv_at hl 12 rfl) ?_
        refine lv_iconst (v := 3) hx hb dL_law_270 (by decide) ?_
        refine lv_iload hx hb dL_law_271 (lv_at hl 8 rfl) ?_
        refine lv_iload hx hb dL_law_273 (lv_at hl 1 rfl) ?_
        refine lv_iload hx hb dL_law_275 (lv_at hl 0 rfl) ?_
        refine la_SW (As := [.ref (q 9), .int 3, .int (nI o1), .int (nI o2), .int (nI qn)]) (rest := []) (wr := [(qt, .inl (cI, 64, .inl (T))), (qo, .inl (cI, 30, .inl (M))), (qg, .inl (cI, 48, .inl (upd (upd (upd G (3 * n) (nI o1)) ((3 * n) + 1) (nI o2)) ((3 * n) + 2) (nI qn)))), (qm, .inl (cI, 1, .inl (upd C 0 (nI (n + 1)))))]) ⟨hx, hb, hml, hown, hts⟩ (c_L_rule_add l hfl D q F n Rv cI cZ _ (nI o1) (nI o2) (nI qn) hw) (vx_cwSW 5 hts gL_law_L_rule rfl rfl rfl (by decide +kernel) ⟨Nat.le_of_ble_eq_true rfl, Nat.le_of_ble_eq_true rfl⟩) hn9 htA hK hP hD hA [0, 1, 2, 3, 4, 5, 6, 7, 8, 9] [10, 11, 12, 13] rfl rfl (by decide) rfl (by decide) (by decide) hS rfl hl.1 rfl (Nat.le_of_ble_eq_true rfl) dL_law_277 ⟨by show _ ≤ 600130; omega, by show _ ≤ 7301080; omega⟩ (fun r9 u9 H locs h_277 hP hD hS => ?_)
        obtain ⟨F8, n8⟩ := u9
        obtain ⟨h9a, h9b, h9c⟩ := h_277.1 (thAdd_0 (cl_in h1 h2) (sub_b h3 h4 h2 hne) (qn_in hq1.1 hq1.2) (by omega))
        subst h9a
        obtain rfl : F8 = (fAdd F n (nI o1) (nI o2) (nI qn)) := h9b
        obtain rfl : n8 = n + 1 := h9c
        have hP : va_P D vwCl (wX q (fAdd F n (nI o1) (nI o2) (nI qn)) (nI (n + 1)) Rv cI cZ ++ [(qt, .inl (cI, 64, .inl (T))), (qo, .inl (cI, 30, .inl (M))), (qg, .inl (cI, 48, .inl (upd (upd (upd G (3 * n) (nI o1)) ((3 * n) + 1) (nI o2)) ((3 * n) + 2) (nI qn)))), (qm, .inl (cI, 1, .inl (upd C 0 (nI (n + 1)))))]) H := hP.sub [4, 5, 6, 7, 8, 9, 10, 11, 12, 13, 0, 1, 2, 3] rfl
        have hD : va_D (aL s) (wX q (fAdd F n (nI o1) (nI o2) (nI qn)) (nI (n + 1)) Rv cI cZ ++ [(qt, .inl (cI, 64, .inl (T))), (qo, .inl (cI, 30, .inl (M))), (qg, .inl (cI, 48, .inl (upd (upd (upd G (3 * n) (nI o1)) ((3 * n) + 1) (nI o2)) ((3 * n) + 2) (nI qn)))), (qm, .inl (cI, 1, .inl (upd C 0 (nI (n + 1)))))]) := hD.sub [4, 5, 6, 7, 8, 9, 10, 11, 12, 13, 0, 1, 2, 3] (by decide) rfl
        refine lv_iload hx hb dL_law_280 (lv_at hl 2 rfl) ?_
        refine lv_icmp_ne (x := (nI n)) (y := (nI n)) (tgt := 299) hx hb dL_law_282 (by decide) (fun k => (k rfl : False).elim) (fun c_282 => ?_)
        refine lv_aload_n hx hb dL_law_285 rfl (lv_at hl 12 rfl) ?_
        refine lv_iload hx hb dL_law_286 (lv_at hl 2 rfl) ?_
        refine ro_V (As := [.int (nI n)]) (rest := []) ⟨hx, hb, hml, hown, hts⟩ (v_placeOf l D q (fAdd F n (nI o1) (nI o2) (nI qn)) (n + 1) Rv cI cZ n (wf_add hw (thAdd_0 (cl_in h1 h2) (sub_b h3 h4 h2 hne) (qn_in hq1.1 hq1.2) (by omega))) (by omega)) (cwV 1 hts gL_law_X0_placeOf rfl rfl rfl (by decide +kernel) ⟨Nat.le_of_ble_eq_true rfl, Nat.le_of_ble_eq_true rfl⟩) hK hP (hP.sub [0, 1, 2, 3, 4, 5, 6, 7, 8, 9] rfl) (va_recv hK hP (ci := 0) (q0 := 0) rfl rfl) hS rfl hl.1 rfl (Nat.le_of_ble_eq_true rfl) dL_law_288 ⟨by show _ ≤ 600130; omega, by show _ ≤ 7301080; omega⟩ (fun r9 H locs h_288 hP hS => ?_)
        obtain rfl := h_288
        refine W.eq (g2 := F0 m9 291 ls (.int (-1) :: [])) (congrArg (fun z => F0 m9 291 ls (Value.int z :: [])) (pk_us)) ?_
        refine lv_iconst (v := (-1)) hx hb dL_law_291 (by decide) ?_
        refine lv_icmp_ne (x := (-1)) (y := (-1)) (tgt := 299) hx hb dL_law_292 (by decide) (fun k => absurd (by decide) k) (fun _ => ?_)
        refine lv_iconst (v := 1) hx hb dL_law_295 (by decide) ?_
        refine lv_goto (tgt := 300) hx hb dL_law_296 (by decide) ?_
        refine lv_istore (lv' := [(6, .int 1), (16, .int (nI qn)), (15, .int (nI o2)), (14, .int (nI n)), (7, .int (nI i)), (8, .int (nI x)), (9, .int (nI y)), (10, .int (nI z)), (11, .int (nI o1)), (12, .int (nI o2)), (13, .int (nI kk)), (0, .ref b), (1, .ref (q 9)), (2, .ref qt), (3, .ref qo), (4, .ref qg), (5, .ref qm)]) hx hb dL_law_300 hl (by decide) rfl (fun ls hl => ?_)
        refine lv_goto (tgt := 745) hx hb dL_law_302 (by decide) ?_
        refine W.widen (k := 710 + 320 * i) (n := 4040 + 1900 * i) (by omega) (by omega) ?_
        exact k745 _ _ _ _ _ _ _ _ _ _ (wf_add hw (thAdd_0 (cl_in h1 h2) (sub_b h3 h4 h2 hne) (qn_in hq1.1 hq1.2) (by omega))) (sy_add hs) (iv_add hv hn (by rw [if_neg (nI_ne_m1 (by omega))])) pk_us hP hD hS (lv_sub hl [4, 0, 5, 6, 11, 12, 13, 14, 15, 16] rfl)
    refine lv_iconst (v := 1) hx hb dL_law_195 (by decide) ?_
    refine lv_iload hx hb dL_law_196 (lv_at hl 5 rfl) ?_
    refine lv_sipush (v := 162) hx hb dL_law_198 (by decide) ?_
    refine lv_idiv hx hb (x := (nI y)) (y := 162) dL_law_201 (by decide) ?_
    refine W.eq (g2 := F0 m9 202 ls (.int (nI (y / 162)) :: [.int 1])) (congrArg (fun z => F0 m9 202 ls (Value.int z :: [.int 1])) (pk_div (a := y) (d := 162) (by omega) (by omega) (by omega))) ?_
    refine lv_iload hx hb dL_law_202 (lv_at hl 5 rfl) ?_
    refine lv_iconst (v := 5) hx hb dL_law_204 (by decide) ?_
    refine lv_irem hx hb (x := (nI y)) (y := 5) dL_law_205 (by decide) ?_
    refine W.eq (g2 := F0 m9 206 ls (.int (nI (y % 5)) :: [.int (nI (y / 162)), .int 1])) (congrArg (fun z => F0 m9 206 ls (Value.int z :: [.int (nI (y / 162)), .int 1])) (pk_rem (a := y) (d := 5) (by omega) (by omega) (by omega))) ?_
    refine lv_if_ne (x := (nI (y % 5))) (tgt := 215) hx hb dL_law_206 (by decide) (fun c_206 => ?_) (fun c_206 => ?_)
    · have c_206 := nq_ne (k := (y % 5)) (n := 0) c_206 (by omega) (by omega)
      refine lv_bipush (v := 20) hx hb dL_law_215 (by decide) ?_
      exact J217 20 _ _ _ ⟨by decide, by decide⟩ hP hD hS (lv_sub hl [0, 1, 2, 3, 4, 5, 6, 7, 8, 9, 10, 11, 12, 13, 14, 15] rfl)
    · have c_206 := nq_eq (k := (y % 5)) (n := 0) c_206 (by omega) (by omega)
      refine lv_sipush (v := 10000) hx hb dL_law_209 (by decide) ?_
      refine lv_goto (tgt := 217) hx hb dL_law_212 (by decide) ?_
      exact J217 10000 _ _ _ ⟨by decide, by decide⟩ hP hD hS (lv_sub hl [0, 1, 2, 3, 4, 5, 6, 7, 8, 9, 10, 11, 12, 13, 14, 15] rfl)
  refine lv_iload hx hb dL_law_170 (lv_at hl 4 rfl) ?_
  refine lv_bipush (v := 81) hx hb dL_law_172 (by decide) ?_
  refine lv_idiv hx hb (x := (nI y)) (y := 81) dL_law_174 (by decide) ?_
  refine W.eq (g2 := F0 m9 175 ls (.int (nI (y / 81)) :: [])) (congrArg (fun z => F0 m9 175 ls (Value.int z :: [])) (pk_div (a := y) (d := 81) (by omega) (by omega) (by omega))) ?_
  refine lv_iconst (v := 2) hx hb dL_law_175 (by decide) ?_
  refine lv_irem hx hb (x := (nI (y / 81))) (y := 2) dL_law_176 (by decide) ?_
  refine W.eq (g2 := F0 m9 177 ls (.int (nI ((y / 81) % 2)) :: [])) (congrArg (fun z => F0 m9 177 ls (Value.int z :: [])) (pk_rem (a := (y / 81)) (d := 2) (by omega) (by omega) (by omega))) ?_
  refine lv_if_eq (x := (nI ((y / 81) % 2))) (tgt := 187) hx hb dL_law_177 (by decide) (fun c_177 => ?_) (fun c_177 => ?_)
  · have c_177 := nq_eq (k := ((y / 81) % 2)) (n := 0) c_177 (by omega) (by omega)
    refine lv_iconst (v := (-1)) hx hb dL_law_187 (by decide) ?_
    refine lv_goto (tgt := 193) hx hb dL_law_188 (by decide) ?_
    exact J193 (-1) _ _ _ (Or.inl rfl) hP hD hS (lv_sub hl [0, 1, 2, 3, 4, 5, 6, 7, 8, 9, 10, 11, 12, 13, 14] rfl)
  · have c_177 := nq_ne (k := ((y / 81) % 2)) (n := 0) c_177 (by omega) (by omega)
    refine lv_iload hx hb dL_law_180 (lv_at hl 6 rfl) ?_
    refine lv_iload hx hb dL_law_182 (lv_at hl 7 rfl) ?_
    refine lv_icmp_ne (x := (nI o1)) (y := (nI o2)) (tgt := 191) hx hb dL_law_184 (by decide) (fun c_184 => ?_) (fun c_184 => ?_)
    · have c_184 := nq_ne (k := o1) (n := o2) c_184 (by omega) (by omega)
      refine lv_iload hx hb dL_law_191 (lv_at hl 7 rfl) ?_
      exact J193 (nI o2) _ _ _ (Or.inr ⟨rfl, c_184⟩) hP hD hS (lv_sub hl [0, 1, 2, 3, 4, 5, 6, 7, 8, 9, 10, 11, 12, 13, 14] rfl)
    · have c_184 := nq_eq (k := o1) (n := o2) c_184 (by omega) (by omega)
      refine lv_iconst (v := (-1)) hx hb dL_law_187 (by decide) ?_
      refine lv_goto (tgt := 193) hx hb dL_law_188 (by decide) ?_
      exact J193 (-1) _ _ _ (Or.inl rfl) hP hD hS (lv_sub hl [0, 1, 2, 3, 4, 5, 6, 7, 8, 9, 10, 11, 12, 13, 14] rfl)

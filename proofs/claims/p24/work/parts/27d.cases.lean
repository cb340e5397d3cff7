/-! the law's other calls -/
set_option maxHeartbeats 8000000 in
set_option maxRecDepth 100000 in
theorem law_b312 {p9 : Program} {l : Launch} {e9 : Env} {s : State} {m9 : MethodId} {below : List Frame} {meth : Method} {c9 : Code} {b L : Nat} {xs : Nat → Int32} {D : va_G} {q : Nat → Nat} {qt qo qg qm : Nat} {cI cZ : ClassId} (hL : L ≤ 260) (hfl : l.stackTraces = false) (C0 : lw_At p9 s m9 meth c9 b L xs) (htA : tBA (aL s) s) (hn9 : nC s) (hK : va_K D vwCl (tIZ cI cZ) s) {i x y : Nat} (hi : i < 70) (hx9 : x < 2 ^ 31) (hy : y < 67108864) (k745 : law_tail p9 l e9 s m9 below meth c9 b D q qt qo qg qm cI cZ i x y) {o1 o2 kk z : Nat} (h1 : 1 ≤ o1) (h2 : o1 ≤ 9) (h3 : 1 ≤ o2) (h4 : o2 ≤ 9) {F : Nat → Nat → Int32} {n : Nat} {Rv T M G C : Nat → Int32} {H : Heap} {locs : List Loc} {ls : Array Slot}  (hw : WF F n) (hs : SY F) (hv : IV F n T M G) (hm : C 0 = nI n) (hP : va_P D vwCl (wX q F (nI n) Rv cI cZ ++ [(qt, .inl (cI, 64, .inl (T))), (qo, .inl (cI, 30, .inl (M))), (qg, .inl (cI, 48, .inl (G))), (qm, .inl (cI, 1, .inl (C)))]) H) (hD : va_D (aL s) (wX q F (nI n) Rv cI cZ ++ [(qt, .inl (cI, 64, .inl (T))), (qo, .inl (cI, 30, .inl (M))), (qg, .inl (cI, 48, .inl (G))), (qm, .inl (cI, 1, .inl (C)))])) (hS : va_S (aL s) s.heap H locs) (hl : lv_has ls 17 [(7, .int (nI i)), (6, .int 1), (8, .int (nI x)), (9, .int (nI y)), (10, .int (nI z)), (11, .int (nI o1)), (12, .int (nI o2)), (13, .int (nI kk)), (0, .ref b), (1, .ref (q 9)), (2, .ref qt), (3, .ref qo), (4, .ref qg), (5, .ref qm)]) : W p9 l e9 room_1 s m9 #[Value.ref b] below meth c9 H locs (700 + 320 * i) (4000 + 1900 * i) (lw_Z below #[Value.ref b] s) (F0 m9 312 ls []) := by
  obtain ⟨hx, hb, hr, hml, hown0, hts0, hX, hbl, hlocks, hgv⟩ := id C0
  have hown : s.vm.findClass RL = some m9.cls := hown0
  have hts : ∀ w ∈ wsL_law, w.before #[Value.ref b] s = true := fun w h => hts0 w (wsL_law_in w h)
  have hA : ∀ q : Nat, s.heap.size ≤ q → aL s q := fun _ h => h
  have hbA : ¬ aL s b := Nat.not_le.mpr hbl
  have hn10 := hv.n
  have hn16 := hw.n
  refine lv_aload_n hx hb dL_law_312 rfl (lv_at hl 10 rfl) ?_
  refine lv_iload hx hb dL_law_313 (lv_at hl 5 rfl) ?_
  refine lv_iload hx hb dL_law_315 (lv_at hl 6 rfl) ?_
  refine ro_SW (As := [.ref qt, .int (nI o1), .int (nI o2)]) (rest := []) ⟨hx, hb, hml, hown, hts⟩ (c_L_table l D cI cZ qt (T) o1 o2 h1 h2 h3 h4) (va_cwS 3 hts gL_law_L_table rfl rfl rfl (by decide +kernel) ⟨Nat.le_of_ble_eq_true rfl, Nat.le_of_ble_eq_true rfl⟩) hK hP (hP.sub [10] rfl) hS rfl hl.1 rfl (Nat.le_of_ble_eq_true rfl) dL_law_317 ⟨by show _ ≤ 600130; omega, by show _ ≤ 7301080; omega⟩ (fun r9 H locs h_317 hP hS => ?_)
  obtain rfl := h_317
  refine W.eq (g2 := F0 m9 320 ls (.int (F 0 (o1 * 10 + o2)) :: [])) (congrArg (fun z => F0 m9 320 ls (Value.int z :: [])) (hv.t h1 h2 h3 h4)) ?_
  refine lv_istore (lv' := [(14, .int (F 0 (o1 * 10 + o2))), (7, .int (nI i)), (6, .int 1), (8, .int (nI x)), (9, .int (nI y)), (10, .int (nI z)), (11, .int (nI o1)), (12, .int (nI o2)), (13, .int (nI kk)), (0, .ref b), (1, .ref (q 9)), (2, .ref qt), (3, .ref qo), (4, .ref qg), (5, .ref qm)]) hx hb dL_law_320 hl (by decide) rfl (fun ls hl => ?_)
  refine lv_aload_n hx hb dL_law_322 rfl (lv_at hl 11 rfl) ?_
  refine lv_iload hx hb dL_law_323 (lv_at hl 6 rfl) ?_
  refine lv_iload hx hb dL_law_325 (lv_at hl 7 rfl) ?_
  refine lv_iload hx hb dL_law_327 (lv_at hl 4 rfl) ?_
  refine lv_bipush (v := 81) hx hb dL_law_329 (by decide) ?_
  refine lv_idiv hx hb (x := (nI y)) (y := 81) dL_law_331 (by decide) ?_
  refine W.eq (g2 := F0 m9 332 ls (.int (nI (y / 81)) :: [.int (nI o2), .int (nI o1), .ref qt])) (congrArg (fun z => F0 m9 332 ls (Value.int z :: [.int (nI o2), .int (nI o1), .ref qt])) (pk_div (a := y) (d := 81) (by omega) (by omega) (by omega))) ?_
  refine lv_iconst (v := 5) hx hb dL_law_332 (by decide) ?_
  refine lv_irem hx hb (x := (nI (y / 81))) (y := 5) dL_law_333 (by decide) ?_
  refine W.eq (g2 := F0 m9 334 ls (.int (nI ((y / 81) % 5)) :: [.int (nI o2), .int (nI o1), .ref qt])) (congrArg (fun z => F0 m9 334 ls (Value.int z :: [.int (nI o2), .int (nI o1), .ref qt])) (pk_rem (a := (y / 81)) (d := 5) (by omega) (by omega) (by omega))) ?_
  refine wr_Sv (As := [.ref qt, .int (nI o1), .int (nI o2), .int (nI ((y / 81) % 5))]) (rest := []) (wr := (wX q F (nI n) Rv cI cZ ++ [(qo, .inl (cI, 30, .inl (M))), (qg, .inl (cI, 48, .inl (G))), (qm, .inl (cI, 1, .inl (C)))])) ⟨hx, hb, hml, hown, hts⟩ (c_L_sets l D cI cZ qt (T) _ o1 o2 (nI ((y / 81) % 5)) h1 h2 h3 h4) (va_cwS 4 hts gL_law_L_sets rfl rfl rfl (by decide +kernel) ⟨Nat.le_of_ble_eq_true rfl, Nat.le_of_ble_eq_true rfl⟩) hK hP hD hA [10] [0, 1, 2, 3, 4, 5, 6, 7, 8, 9, 11, 12, 13] rfl rfl (by decide) rfl (by decide) (by decide) hS rfl hl.1 rfl (Nat.le_of_ble_eq_true rfl) dL_law_334 ⟨by show _ ≤ 600130; omega, by show _ ≤ 7301080; omega⟩ (fun u9 H locs h_334 hP hD hS => ?_)
  subst h_334
  have hP : va_P D vwCl (wX q F (nI n) Rv cI cZ ++ [(qt, .inl (cI, 64, .inl (upd T (tri o1 o2) (nI ((y / 81) % 5))))), (qo, .inl (cI, 30, .inl (M))), (qg, .inl (cI, 48, .inl (G))), (qm, .inl (cI, 1, .inl (C)))]) H := hP.sub [0, 1, 2, 3, 4, 5, 6, 7, 8, 9, 13, 10, 11, 12] rfl
  have hD : va_D (aL s) (wX q F (nI n) Rv cI cZ ++ [(qt, .inl (cI, 64, .inl (upd T (tri o1 o2) (nI ((y / 81) % 5))))), (qo, .inl (cI, 30, .inl (M))), (qg, .inl (cI, 48, .inl (G))), (qm, .inl (cI, 1, .inl (C)))]) := hD.sub [0, 1, 2, 3, 4, 5, 6, 7, 8, 9, 13, 10, 11, 12] (by decide) rfl
  refine lv_aload_n hx hb dL_law_337 rfl (lv_at hl 10 rfl) ?_
  refine lv_iconst (v := 0) hx hb dL_law_338 (by decide) ?_
  refine lv_iload hx hb dL_law_339 (lv_at hl 6 rfl) ?_
  refine lv_iload hx hb dL_law_341 (lv_at hl 7 rfl) ?_
  refine lv_iload hx hb dL_law_343 (lv_at hl 4 rfl) ?_
  refine lv_bipush (v := 81) hx hb dL_law_345 (by decide) ?_
  refine lv_idiv hx hb (x := (nI y)) (y := 81) dL_law_347 (by decide) ?_
  refine W.eq (g2 := F0 m9 348 ls (.int (nI (y / 81)) :: [.int (nI o2), .int (nI o1), .int 0, .ref (q 9)])) (congrArg (fun z => F0 m9 348 ls (Value.int z :: [.int (nI o2), .int (nI o1), .int 0, .ref (q 9)])) (pk_div (a := y) (d := 81) (by omega) (by omega) (by omega))) ?_
  refine lv_iconst (v := 5) hx hb dL_law_348 (by decide) ?_
  refine lv_irem hx hb (x := (nI (y / 81))) (y := 5) dL_law_349 (by decide) ?_
  refine W.eq (g2 := F0 m9 350 ls (.int (nI ((y / 81) % 5)) :: [.int (nI o2), .int (nI o1), .int 0, .ref (q 9)])) (congrArg (fun z => F0 m9 350 ls (Value.int z :: [.int (nI o2), .int (nI o1), .int 0, .ref (q 9)])) (pk_rem (a := (y / 81)) (d := 5) (by omega) (by omega) (by omega))) ?_
  refine la_SW (As := [.ref (q 9), .int 0, .int (nI o1), .int (nI o2), .int (nI ((y / 81) % 5))]) (rest := []) (wr := [(qt, .inl (cI, 64, .inl (upd T (tri o1 o2) (nI ((y / 81) % 5))))), (qo, .inl (cI, 30, .inl (M))), (qg, .inl (cI, 48, .inl (G))), (qm, .inl (cI, 1, .inl (C)))]) ⟨hx, hb, hml, hown, hts⟩ (c_L_rule_sd l hfl D q F n Rv cI cZ _ (nI o1) (nI o2) (nI ((y / 81) % 5)) hw) (vx_cwSW 5 hts gL_law_L_rule rfl rfl rfl (by decide +kernel) ⟨Nat.le_of_ble_eq_true rfl, Nat.le_of_ble_eq_true rfl⟩) hn9 htA hK hP hD hA [0, 1, 2, 3, 4, 5, 6, 7, 8, 9] [10, 11, 12, 13] rfl rfl (by decide) rfl (by decide) (by decide) hS rfl hl.1 rfl (Nat.le_of_ble_eq_true rfl) dL_law_350 ⟨by show _ ≤ 600130; omega, by show _ ≤ 7301080; omega⟩ (fun r9 u9 H locs h_350 hP hD hS => ?_)
  obtain ⟨h9a, h9b⟩ := h_350.1 (thSD_0 (cl_in h1 h2) (cl_in h3 h4) (lq_in (n := 4) (by omega) (by decide)))
  subst h9a
  obtain rfl : u9 = (fSD F (nI o1) (nI o2) (nI (y / 81 % 5))) := h9b
  have hP : va_P D vwCl (wX q (fSD F (nI o1) (nI o2) (nI (y / 81 % 5))) (nI n) Rv cI cZ ++ [(qt, .inl (cI, 64, .inl (upd T (tri o1 o2) (nI ((y / 81) % 5))))), (qo, .inl (cI, 30, .inl (M))), (qg, .inl (cI, 48, .inl (G))), (qm, .inl (cI, 1, .inl (C)))]) H := hP.sub [4, 5, 6, 7, 8, 9, 10, 11, 12, 13, 0, 1, 2, 3] rfl
  have hD : va_D (aL s) (wX q (fSD F (nI o1) (nI o2) (nI (y / 81 % 5))) (nI n) Rv cI cZ ++ [(qt, .inl (cI, 64, .inl (upd T (tri o1 o2) (nI ((y / 81) % 5))))), (qo, .inl (cI, 30, .inl (M))), (qg, .inl (cI, 48, .inl (G))), (qm, .inl (cI, 1, .inl (C)))]) := hD.sub [4, 5, 6, 7, 8, 9, 10, 11, 12, 13, 0, 1, 2, 3] (by decide) rfl
  refine W.eq (g2 := F0 m9 353 ls (.int (F 0 (o1 * 10 + o2)) :: [])) (congrArg (fun z => F0 m9 353 ls (Value.int z :: [])) (by rw [ix_nI, nI_clamp (by omega)])) ?_
  refine lv_iload hx hb dL_law_353 (lv_at hl 0 rfl) ?_
  refine lv_icmp_ne (x := (F 0 (o1 * 10 + o2))) (y := (F 0 (o1 * 10 + o2))) (tgt := 388) hx hb dL_law_355 (by decide) (fun k => (k rfl : False).elim) (fun c_355 => ?_)
  refine lv_aload_n hx hb dL_law_358 rfl (lv_at hl 10 rfl) ?_
  refine lv_iconst (v := 0) hx hb dL_law_359 (by decide) ?_
  refine lv_iload hx hb dL_law_360 (lv_at hl 7 rfl) ?_
  refine lv_iload hx hb dL_law_362 (lv_at hl 6 rfl) ?_
  refine lv_iload hx hb dL_law_364 (lv_at hl 4 rfl) ?_
  refine lv_bipush (v := 81) hx hb dL_law_366 (by decide) ?_
  refine lv_idiv hx hb (x := (nI y)) (y := 81) dL_law_368 (by decide) ?_
  refine W.eq (g2 := F0 m9 369 ls (.int (nI (y / 81)) :: [.int (nI o1), .int (nI o2), .int 0, .ref (q 9)])) (congrArg (fun z => F0 m9 369 ls (Value.int z :: [.int (nI o1), .int (nI o2), .int 0, .ref (q 9)])) (pk_div (a := y) (d := 81) (by omega) (by omega) (by omega))) ?_
  refine lv_iconst (v := 5) hx hb dL_law_369 (by decide) ?_
  refine lv_irem hx hb (x := (nI (y / 81))) (y := 5) dL_law_370 (by decide) ?_
  refine W.eq (g2 := F0 m9 371 ls (.int (nI ((y / 81) % 5)) :: [.int (nI o1), .int (nI o2), .int 0, .ref (q 9)])) (congrArg (fun z => F0 m9 371 ls (Value.int z :: [.int (nI o1), .int (nI o2), .int 0, .ref (q 9)])) (pk_rem (a := (y / 81)) (d := 5) (by omega) (by omega) (by omega))) ?_
  refine la_SW (As := [.ref (q 9), .int 0, .int (nI o2), .int (nI o1), .int (nI ((y / 81) % 5))]) (rest := []) (wr := [(qt, .inl (cI, 64, .inl (upd T (tri o1 o2) (nI ((y / 81) % 5))))), (qo, .inl (cI, 30, .inl (M))), (qg, .inl (cI, 48, .inl (G))), (qm, .inl (cI, 1, .inl (C)))]) ⟨hx, hb, hml, hown, hts⟩ (c_L_rule_sd l hfl D q (fSD F (nI o1) (nI o2) (nI (y / 81 % 5))) n Rv cI cZ _ (nI o2) (nI o1) (nI ((y / 81) % 5)) (wf_sd hw (thSD_0 (cl_in h1 h2) (cl_in h3 h4) (lq_in (n := 4) (by omega) (by decide))))) (vx_cwSW 5 hts gL_law_L_rule rfl rfl rfl (by decide +kernel) ⟨Nat.le_of_ble_eq_true rfl, Nat.le_of_ble_eq_true rfl⟩) hn9 htA hK hP hD hA [0, 1, 2, 3, 4, 5, 6, 7, 8, 9] [10, 11, 12, 13] rfl rfl (by decide) rfl (by decide) (by decide) hS rfl hl.1 rfl (Nat.le_of_ble_eq_true rfl) dL_law_371 ⟨by show _ ≤ 600130; omega, by show _ ≤ 7301080; omega⟩ (fun r9 u9 H locs h_371 hP hD hS => ?_)
  obtain ⟨h9a, h9b⟩ := h_371.1 (thSD_0 (cl_in h3 h4) (cl_in h1 h2) (lq_in (n := 4) (by omega) (by decide)))
  subst h9a
  obtain rfl : u9 = (fSD (fSD F (nI o1) (nI o2) (nI (y / 81 % 5))) (nI o2) (nI o1) (nI (y / 81 % 5))) := h9b
  have hP : va_P D vwCl (wX q (fSD (fSD F (nI o1) (nI o2) (nI (y / 81 % 5))) (nI o2) (nI o1) (nI (y / 81 % 5))) (nI n) Rv cI cZ ++ [(qt, .inl (cI, 64, .inl (upd T (tri o1 o2) (nI ((y / 81) % 5))))), (qo, .inl (cI, 30, .inl (M))), (qg, .inl (cI, 48, .inl (G))), (qm, .inl (cI, 1, .inl (C)))]) H := hP.sub [4, 5, 6, 7, 8, 9, 10, 11, 12, 13, 0, 1, 2, 3] rfl
  have hD : va_D (aL s) (wX q (fSD (fSD F (nI o1) (nI o2) (nI (y / 81 % 5))) (nI o2) (nI o1) (nI (y / 81 % 5))) (nI n) Rv cI cZ ++ [(qt, .inl (cI, 64, .inl (upd T (tri o1 o2) (nI ((y / 81) % 5))))), (qo, .inl (cI, 30, .inl (M))), (qg, .inl (cI, 48, .inl (G))), (qm, .inl (cI, 1, .inl (C)))]) := hD.sub [4, 5, 6, 7, 8, 9, 10, 11, 12, 13, 0, 1, 2, 3] (by decide) rfl
  refine W.eq (g2 := F0 m9 374 ls (.int (nI (y / 81 % 5)) :: [])) (congrArg (fun z => F0 m9 374 ls (Value.int z :: [])) (sd_back h2 h4)) ?_
  refine lv_iload hx hb dL_law_374 (lv_at hl 4 rfl) ?_
  refine lv_bipush (v := 81) hx hb dL_law_376 (by decide) ?_
  refine lv_idiv hx hb (x := (nI y)) (y := 81) dL_law_378 (by decide) ?_
  refine W.eq (g2 := F0 m9 379 ls (.int (nI (y / 81)) :: [.int (nI (y / 81 % 5))])) (congrArg (fun z => F0 m9 379 ls (Value.int z :: [.int (nI (y / 81 % 5))])) (pk_div (a := y) (d := 81) (by omega) (by omega) (by omega))) ?_
  refine lv_iconst (v := 5) hx hb dL_law_379 (by decide) ?_
  refine lv_irem hx hb (x := (nI (y / 81))) (y := 5) dL_law_380 (by decide) ?_
  refine W.eq (g2 := F0 m9 381 ls (.int (nI ((y / 81) % 5)) :: [.int (nI (y / 81 % 5))])) (congrArg (fun z => F0 m9 381 ls (Value.int z :: [.int (nI (y / 81 % 5))])) (pk_rem (a := (y / 81)) (d := 5) (by omega) (by omega) (by omega))) ?_
  refine lv_icmp_ne (x := (nI (y / 81 % 5))) (y := (nI ((y / 81) % 5))) (tgt := 388) hx hb dL_law_381 (by decide) (fun k => (k rfl : False).elim) (fun c_381 => ?_)
  refine lv_iconst (v := 1) hx hb dL_law_384 (by decide) ?_
  refine lv_goto (tgt := 389) hx hb dL_law_385 (by decide) ?_
  refine lv_istore (lv' := [(6, .int 1), (14, .int (F 0 (o1 * 10 + o2))), (7, .int (nI i)), (8, .int (nI x)), (9, .int (nI y)), (10, .int (nI z)), (11, .int (nI o1)), (12, .int (nI o2)), (13, .int (nI kk)), (0, .ref b), (1, .ref (q 9)), (2, .ref qt), (3, .ref qo), (4, .ref qg), (5, .ref qm)]) hx hb dL_law_389 hl (by decide) rfl (fun ls hl => ?_)
  refine lv_goto (tgt := 745) hx hb dL_law_391 (by decide) ?_
  refine W.widen (k := 710 + 320 * i) (n := 4040 + 1900 * i) (by omega) (by omega) ?_
  exact k745 _ _ _ _ _ _ _ _ _ _ (wf_sd (wf_sd hw (thSD_0 (cl_in h1 h2) (cl_in h3 h4) (lq_in (n := 4) (by omega) (by decide)))) (thSD_0 (cl_in h3 h4) (cl_in h1 h2) (lq_in (n := 4) (by omega) (by decide)))) (sy_sd (sy_sd hs (thSD_0 (cl_in h1 h2) (cl_in h3 h4) (lq_in (n := 4) (by omega) (by decide)))) (thSD_0 (cl_in h3 h4) (cl_in h1 h2) (lq_in (n := 4) (by omega) (by decide)))) (iv_sd hv h1 h2 h3 h4) hm hP hD hS (lv_sub hl [2, 0, 3, 4, 9, 10, 11, 12, 13, 14] rfl)
set_option maxHeartbeats 8000000 in
set_option maxRecDepth 100000 in
theorem law_b401 {p9 : Program} {l : Launch} {e9 : Env} {s : State} {m9 : MethodId} {below : List Frame} {meth : Method} {c9 : Code} {b L : Nat} {xs : Nat → Int32} {D : va_G} {q : Nat → Nat} {qt qo qg qm : Nat} {cI cZ : ClassId} (hL : L ≤ 260) (hfl : l.stackTraces = false) (C0 : lw_At p9 s m9 meth c9 b L xs) (htA : tBA (aL s) s) (hn9 : nC s) (hK : va_K D vwCl (tIZ cI cZ) s) {i x y : Nat} (hi : i < 70) (hx9 : x < 2 ^ 31) (hy : y < 67108864) (k745 : law_tail p9 l e9 s m9 below meth c9 b D q qt qo qg qm cI cZ i x y) {o1 o2 kk z : Nat} (h1 : 1 ≤ o1) (h2 : o1 ≤ 9) (h3 : 1 ≤ o2) (h4 : o2 ≤ 9) {F : Nat → Nat → Int32} {n : Nat} {Rv T M G C : Nat → Int32} {H : Heap} {locs : List Loc} {ls : Array Slot}  (hw : WF F n) (hs : SY F) (hv : IV F n T M G) (hm : C 0 = nI n) (hP : va_P D vwCl (wX q F (nI n) Rv cI cZ ++ [(qt, .inl (cI, 64, .inl (T))), (qo, .inl (cI, 30, .inl (M))), (qg, .inl (cI, 48, .inl (G))), (qm, .inl (cI, 1, .inl (C)))]) H) (hD : va_D (aL s) (wX q F (nI n) Rv cI cZ ++ [(qt, .inl (cI, 64, .inl (T))), (qo, .inl (cI, 30, .inl (M))), (qg, .inl (cI, 48, .inl (G))), (qm, .inl (cI, 1, .inl (C)))])) (hS : va_S (aL s) s.heap H locs) (hl : lv_has ls 17 [(7, .int (nI i)), (6, .int 1), (8, .int (nI x)), (9, .int (nI y)), (10, .int (nI z)), (11, .int (nI o1)), (12, .int (nI o2)), (13, .int (nI kk)), (0, .ref b), (1, .ref (q 9)), (2, .ref qt), (3, .ref qo), (4, .ref qg), (5, .ref qm)]) : W p9 l e9 room_1 s m9 #[Value.ref b] below meth c9 H locs (700 + 320 * i) (4000 + 1900 * i) (lw_Z below #[Value.ref b] s) (F0 m9 401 ls []) := by
  obtain ⟨hx, hb, hr, hml, hown0, hts0, hX, hbl, hlocks, hgv⟩ := id C0
  have hown : s.vm.findClass RL = some m9.cls := hown0
  have hts : ∀ w ∈ wsL_law, w.before #[Value.ref b] s = true := fun w h => hts0 w (wsL_law_in w h)
  have hA : ∀ q : Nat, s.heap.size ≤ q → aL s q := fun _ h => h
  have hbA : ¬ aL s b := Nat.not_le.mpr hbl
  have hn10 := hv.n
  have hn16 := hw.n
  refine lv_aload_n hx hb dL_law_401 rfl (lv_at hl 11 rfl) ?_
  refine lv_iload hx hb dL_law_402 (lv_at hl 5 rfl) ?_
  have J424 : ∀ (dd : Nat) (H : Heap) (locs : List Loc) (ls : Array Slot), (0 < dd ∧ dd ≤ 10001) → va_P D vwCl (wX q F (nI n) Rv cI cZ ++ [(qt, .inl (cI, 64, .inl (T))), (qo, .inl (cI, 30, .inl (M))), (qg, .inl (cI, 48, .inl (G))), (qm, .inl (cI, 1, .inl (C)))]) H → va_D (aL s) (wX q F (nI n) Rv cI cZ ++ [(qt, .inl (cI, 64, .inl (T))), (qo, .inl (cI, 30, .inl (M))), (qg, .inl (cI, 48, .inl (G))), (qm, .inl (cI, 1, .inl (C)))]) → va_S (aL s) s.heap H locs → lv_has ls 17 [(7, .int (nI i)), (6, .int 1), (8, .int (nI x)), (9, .int (nI y)), (10, .int (nI z)), (11, .int (nI o1)), (12, .int (nI o2)), (13, .int (nI kk)), (0, .ref b), (1, .ref (q 9)), (2, .ref qt), (3, .ref qo), (4, .ref qg), (5, .ref qm)] → W p9 l e9 room_1 s m9 #[Value.ref b] below meth c9 H locs (700 + 320 * i) (4000 + 1900 * i) (lw_Z below #[Value.ref b] s) (F0 m9 424 ls [.int (nI dd), .int (nI (y / 9)), .int (nI o1), .ref qo]) := by
    intro dd H locs ls hdd hP hD hS hl
    obtain ⟨lq, hlq, elq⟩ : ∃ j, j ≤ 10000 ∧ y / 9 % dd = j := ⟨_, by have := Nat.mod_lt (y / 9) hdd.1; omega, rfl⟩
    refine lv_irem hx hb (x := (nI (y / 9))) (y := (nI dd)) dL_law_424 (nI_ne0 (by omega) (by omega)) ?_
    refine W.eq (g2 := F0 m9 425 ls (.int (nI ((y / 9) % dd)) :: [.int (nI o1), .ref qo])) (congrArg (fun z => F0 m9 425 ls (Value.int z :: [.int (nI o1), .ref qo])) (pk_rem (a := (y / 9)) (d := dd) (by omega) (by omega) (by omega))) ?_
    refine W.eq (g2 := F0 m9 425 ls (.int (nI lq) :: [.int (nI o1), .ref qo])) (congrArg (fun z => F0 m9 425 ls (Value.int z :: [.int (nI o1), .ref qo])) (congrArg nI elq)) ?_
    refine xiast (g := o1) (x := (nI lq)) hx hb hK hP hD hS 11 0 rfl rfl (by omega) (by decide) dL_law_425 (fun H locs hP hD hS => ?_)
    have hP : va_P D vwCl (wX q F (nI n) Rv cI cZ ++ [(qt, .inl (cI, 64, .inl (T))), (qo, .inl (cI, 30, .inl (upd M o1 (nI lq)))), (qg, .inl (cI, 48, .inl (G))), (qm, .inl (cI, 1, .inl (C)))]) H := hP
    have hD : va_D (aL s) (wX q F (nI n) Rv cI cZ ++ [(qt, .inl (cI, 64, .inl (T))), (qo, .inl (cI, 30, .inl (upd M o1 (nI lq)))), (qg, .inl (cI, 48, .inl (G))), (qm, .inl (cI, 1, .inl (C)))]) := hD
    refine lv_aload_n hx hb dL_law_426 rfl (lv_at hl 11 rfl) ?_
    refine lv_bipush (v := 10) hx hb dL_law_427 (by decide) ?_
    refine lv_iload hx hb dL_law_429 (lv_at hl 5 rfl) ?_
    refine lv_iadd hx hb (x := 10) (y := (nI o1)) dL_law_431 ?_
    refine W.eq (g2 := F0 m9 432 ls (.int (nI (10 + o1)) :: [.ref qo])) (congrArg (fun z => F0 m9 432 ls (Value.int z :: [.ref qo])) (nI_add 10 o1)) ?_
    refine lv_iload hx hb dL_law_432 (lv_at hl 3 rfl) ?_
    refine lv_ldc hx hb hown (hts (.constant RL 143 (90000)) (by decide +kernel)) dL_law_434 ?_
    refine lv_idiv hx hb (x := (nI y)) (y := 90000) dL_law_436 (by decide) ?_
    refine W.eq (g2 := F0 m9 437 ls (.int (nI (y / 90000)) :: [.int (nI (10 + o1)), .ref qo])) (congrArg (fun z => F0 m9 437 ls (Value.int z :: [.int (nI (10 + o1)), .ref qo])) (pk_div (a := y) (d := 90000) (by omega) (by omega) (by omega))) ?_
    refine lv_aload_n hx hb dL_law_437 rfl (lv_at hl 11 rfl) ?_
    refine lv_iload hx hb dL_law_438 (lv_at hl 5 rfl) ?_
    refine xiald (g := o1) hx hb hK hP 11 0 rfl rfl (by omega) (by decide) dL_law_440 ?_
    refine W.eq (g2 := F0 m9 441 ls (.int (nI lq) :: [.int (nI (y / 90000)), .int (nI (10 + o1)), .ref qo])) (congrArg (fun z => F0 m9 441 ls (Value.int z :: [.int (nI (y / 90000)), .int (nI (10 + o1)), .ref qo])) (pk_us)) ?_
    refine lv_iconst (v := 1) hx hb dL_law_441 (by decide) ?_
    refine lv_iadd hx hb (x := (nI lq)) (y := 1) dL_law_442 ?_
    refine W.eq (g2 := F0 m9 443 ls (.int (nI (lq + 1)) :: [.int (nI (y / 90000)), .int (nI (10 + o1)), .ref qo])) (congrArg (fun z => F0 m9 443 ls (Value.int z :: [.int (nI (y / 90000)), .int (nI (10 + o1)), .ref qo])) (nI_add lq 1)) ?_
    refine lv_irem hx hb (x := (nI (y / 90000))) (y := (nI (lq + 1))) dL_law_443 (nI_ne0 (by omega) (by omega)) ?_
    refine W.eq (g2 := F0 m9 444 ls (.int (nI ((y / 90000) % (lq + 1))) :: [.int (nI (10 + o1)), .ref qo])) (congrArg (fun z => F0 m9 444 ls (Value.int z :: [.int (nI (10 + o1)), .ref qo])) (pk_rem (a := (y / 90000)) (d := (lq + 1)) (by omega) (by omega) (by omega))) ?_
    refine lv_iconst (v := 1) hx hb dL_law_444 (by decide) ?_
    refine lv_iload hx hb dL_law_445 (lv_at hl 3 rfl) ?_
    refine lv_iconst (v := 3) hx hb dL_law_447 (by decide) ?_
    refine lv_irem hx hb (x := (nI y)) (y := 3) dL_law_448 (by decide) ?_
    refine W.eq (g2 := F0 m9 449 ls (.int (nI (y % 3)) :: [.int 1, .int (nI ((y / 90000) % (lq + 1))), .int (nI (10 + o1)), .ref qo])) (congrArg (fun z => F0 m9 449 ls (Value.int z :: [.int 1, .int (nI ((y / 90000) % (lq + 1))), .int (nI (10 + o1)), .ref qo])) (pk_rem (a := y) (d := 3) (by omega) (by omega) (by omega))) ?_
    refine lv_iadd hx hb (x := 1) (y := (nI (y % 3))) dL_law_449 ?_
    refine W.eq (g2 := F0 m9 450 ls (.int (nI (1 + (y % 3))) :: [.int (nI ((y / 90000) % (lq + 1))), .int (nI (10 + o1)), .ref qo])) (congrArg (fun z => F0 m9 450 ls (Value.int z :: [.int (nI ((y / 90000) % (lq + 1))), .int (nI (10 + o1)), .ref qo])) (nI_add 1 (y % 3))) ?_
    obtain ⟨xq, hxq, exq⟩ : ∃ j, j ≤ lq ∧ y / 90000 % (lq + 1) / (1 + y % 3) = j := ⟨_, Nat.le_trans (Nat.div_le_self _ _) (by have h9 : y / 90000 % (lq + 1) < lq + 1 := Nat.mod_lt _ (Nat.succ_pos lq); omega), rfl⟩
    have hmo : y / 90000 % (lq + 1) < lq + 1 := Nat.mod_lt _ (Nat.succ_pos lq)
    refine lv_idiv hx hb (x := (nI ((y / 90000) % (lq + 1)))) (y := (nI (1 + (y % 3)))) dL_law_450 (nI_ne0 (by omega) (by omega)) ?_
    refine W.eq (g2 := F0 m9 451 ls (.int (nI (((y / 90000) % (lq + 1)) / (1 + (y % 3)))) :: [.int (nI (10 + o1)), .ref qo])) (congrArg (fun z => F0 m9 451 ls (Value.int z :: [.int (nI (10 + o1)), .ref qo])) (pk_div (a := ((y / 90000) % (lq + 1))) (d := (1 + (y % 3))) (by omega) (by omega) (by omega))) ?_
    refine W.eq (g2 := F0 m9 451 ls (.int (nI xq) :: [.int (nI (10 + o1)), .ref qo])) (congrArg (fun z => F0 m9 451 ls (Value.int z :: [.int (nI (10 + o1)), .ref qo])) (congrArg nI exq)) ?_
    refine xiast (g := (10 + o1)) (x := (nI xq)) hx hb hK hP hD hS 11 0 rfl rfl (by omega) (by decide) dL_law_451 (fun H locs hP hD hS => ?_)
    have hP : va_P D vwCl (wX q F (nI n) Rv cI cZ ++ [(qt, .inl (cI, 64, .inl (T))), (qo, .inl (cI, 30, .inl (upd (upd M o1 (nI lq)) (10 + o1) (nI xq)))), (qg, .inl (cI, 48, .inl (G))), (qm, .inl (cI, 1, .inl (C)))]) H := hP
    have hD : va_D (aL s) (wX q F (nI n) Rv cI cZ ++ [(qt, .inl (cI, 64, .inl (T))), (qo, .inl (cI, 30, .inl (upd (upd M o1 (nI lq)) (10 + o1) (nI xq)))), (qg, .inl (cI, 48, .inl (G))), (qm, .inl (cI, 1, .inl (C)))]) := hD
    refine lv_aload_n hx hb dL_law_452 rfl (lv_at hl 9 rfl) ?_
    refine lv_iload hx hb dL_law_453 (lv_at hl 5 rfl) ?_
    refine lv_aload_n hx hb dL_law_455 rfl (lv_at hl 11 rfl) ?_
    refine lv_iload hx hb dL_law_456 (lv_at hl 5 rfl) ?_
    refine xiald (g := o1) hx hb hK hP 11 0 rfl rfl (by omega) (by decide) dL_law_458 ?_
    refine W.eq (g2 := F0 m9 459 ls (.int (nI lq) :: [.int (nI o1), .ref (q 9)])) (congrArg (fun z => F0 m9 459 ls (Value.int z :: [.int (nI o1), .ref (q 9)])) ((pk_un (by omega)).trans pk_us)) ?_
    refine lv_aload_n hx hb dL_law_459 rfl (lv_at hl 11 rfl) ?_
    refine lv_bipush (v := 10) hx hb dL_law_460 (by decide) ?_
    refine lv_iload hx hb dL_law_462 (lv_at hl 5 rfl) ?_
    refine lv_iadd hx hb (x := 10) (y := (nI o1)) dL_law_464 ?_
    refine W.eq (g2 := F0 m9 465 ls (.int (nI (10 + o1)) :: [.ref qo, .int (nI lq), .int (nI o1), .ref (q 9)])) (congrArg (fun z => F0 m9 465 ls (Value.int z :: [.ref qo, .int (nI lq), .int (nI o1), .ref (q 9)])) (nI_add 10 o1)) ?_
    refine xiald (g := (10 + o1)) hx hb hK hP 11 0 rfl rfl (by omega) (by decide) dL_law_465 ?_
    refine W.eq (g2 := F0 m9 466 ls (.int (nI xq) :: [.int (nI lq), .int (nI o1), .ref (q 9)])) (congrArg (fun z => F0 m9 466 ls (Value.int z :: [.int (nI lq), .int (nI o1), .ref (q 9)])) (pk_us)) ?_
    refine la_SW (As := [.ref (q 9), .int (nI o1), .int (nI lq), .int (nI xq)]) (rest := []) (wr := [(qt, .inl (cI, 64, .inl (T))), (qo, .inl (cI, 30, .inl (upd (upd M o1 (nI lq)) (10 + o1) (nI xq)))), (qg, .inl (cI, 48, .inl (G))), (qm, .inl (cI, 1, .inl (C)))]) ⟨hx, hb, hml, hown, hts⟩ (c_L_setQuantities l hfl D q F n Rv cI cZ _ (nI o1) (nI lq) (nI xq) hw) (vx_cwSW 4 hts gL_law_L_setQuantities rfl rfl rfl (by decide +kernel) ⟨Nat.le_of_ble_eq_true rfl, Nat.le_of_ble_eq_true rfl⟩) hn9 htA hK hP hD hA [0, 1, 2, 3, 4, 5, 6, 7, 8, 9] [10, 11, 12, 13] rfl rfl (by decide) rfl (by decide) (by decide) hS rfl hl.1 rfl (Nat.le_of_ble_eq_true rfl) dL_law_466 ⟨by show _ ≤ 600130; omega, by show _ ≤ 7301080; omega⟩ (fun r9 u9 H locs h_466 hP hD hS => ?_)
    obtain ⟨h9a, h9b⟩ := h_466.1 (thSQ_0 (cl_in h1 h2) (lq_in (n := 10000) hlq (by decide)) (lq_in hxq (by omega)))
    subst h9a
    obtain rfl : u9 = (fSQ F (nI o1) (nI lq) (nI xq)) := h9b
    have hP : va_P D vwCl (wX q (fSQ F (nI o1) (nI lq) (nI xq)) (nI n) Rv cI cZ ++ [(qt, .inl (cI, 64, .inl (T))), (qo, .inl (cI, 30, .inl (upd (upd M o1 (nI lq)) (10 + o1) (nI xq)))), (qg, .inl (cI, 48, .inl (G))), (qm, .inl (cI, 1, .inl (C)))]) H := hP.sub [4, 5, 6, 7, 8, 9, 10, 11, 12, 13, 0, 1, 2, 3] rfl
    have hD : va_D (aL s) (wX q (fSQ F (nI o1) (nI lq) (nI xq)) (nI n) Rv cI cZ ++ [(qt, .inl (cI, 64, .inl (T))), (qo, .inl (cI, 30, .inl (upd (upd M o1 (nI lq)) (10 + o1) (nI xq)))), (qg, .inl (cI, 48, .inl (G))), (qm, .inl (cI, 1, .inl (C)))]) := hD.sub [4, 5, 6, 7, 8, 9, 10, 11, 12, 13, 0, 1, 2, 3] (by decide) rfl
    refine lv_if_ne (x := 0) (tgt := 476) hx hb dL_law_469 (by decide) (fun k => absurd (by decide) k) (fun _ => ?_)
    refine lv_iconst (v := 1) hx hb dL_law_472 (by decide) ?_
    refine lv_goto (tgt := 477) hx hb dL_law_473 (by decide) ?_
    refine lv_istore (lv' := [(6, .int 1), (7, .int (nI i)), (8, .int (nI x)), (9, .int (nI y)), (10, .int (nI z)), (11, .int (nI o1)), (12, .int (nI o2)), (13, .int (nI kk)), (0, .ref b), (1, .ref (q 9)), (2, .ref qt), (3, .ref qo), (4, .ref qg), (5, .ref qm)]) hx hb dL_law_477 hl (by decide) rfl (fun ls hl => ?_)
    refine lv_goto (tgt := 745) hx hb dL_law_479 (by decide) ?_
    refine W.widen (k := 710 + 320 * i) (n := 4040 + 1900 * i) (by omega) (by omega) ?_
    exact k745 _ _ _ _ _ _ _ _ _ _ (wf_sq hw) (sy_sq hs) (iv_sq hv h1 h2) hm hP hD hS (lv_sub hl [1, 0, 2, 3, 8, 9, 10, 11, 12, 13] rfl)
  refine lv_iload hx hb dL_law_404 (lv_at hl 3 rfl) ?_
  refine lv_bipush (v := 9) hx hb dL_law_406 (by decide) ?_
  refine lv_idiv hx hb (x := (nI y)) (y := 9) dL_law_408 (by decide) ?_
  refine W.eq (g2 := F0 m9 409 ls (.int (nI (y / 9)) :: [.int (nI o1), .ref qo])) (congrArg (fun z => F0 m9 409 ls (Value.int z :: [.int (nI o1), .ref qo])) (pk_div (a := y) (d := 9) (by omega) (by omega) (by omega))) ?_
  refine lv_iload hx hb dL_law_409 (lv_at hl 3 rfl) ?_
  refine lv_iconst (v := 4) hx hb dL_law_411 (by decide) ?_
  refine lv_irem hx hb (x := (nI y)) (y := 4) dL_law_412 (by decide) ?_
  refine W.eq (g2 := F0 m9 413 ls (.int (nI (y % 4)) :: [.int (nI (y / 9)), .int (nI o1), .ref qo])) (congrArg (fun z => F0 m9 413 ls (Value.int z :: [.int (nI (y / 9)), .int (nI o1), .ref qo])) (pk_rem (a := y) (d := 4) (by omega) (by omega) (by omega))) ?_
  refine lv_if_ne (x := (nI (y % 4))) (tgt := 422) hx hb dL_law_413 (by decide) (fun c_413 => ?_) (fun c_413 => ?_)
  · have c_413 := nq_ne (k := (y % 4)) (n := 0) c_413 (by omega) (by omega)
    refine lv_bipush (v := 25) hx hb dL_law_422 (by decide) ?_
    exact J424 25 _ _ _ ⟨by decide, by decide⟩ hP hD hS (lv_sub hl [0, 1, 2, 3, 4, 5, 6, 7, 8, 9, 10, 11, 12, 13] rfl)
  · have c_413 := nq_eq (k := (y % 4)) (n := 0) c_413 (by omega) (by omega)
    refine lv_sipush (v := 10001) hx hb dL_law_416 (by decide) ?_
    refine lv_goto (tgt := 424) hx hb dL_law_419 (by decide) ?_
    exact J424 10001 _ _ _ ⟨by decide, by decide⟩ hP hD hS (lv_sub hl [0, 1, 2, 3, 4, 5, 6, 7, 8, 9, 10, 11, 12, 13] rfl)
set_option maxHeartbeats 8000000 in
set_option maxRecDepth 100000 in
theorem law_b489 {p9 : Program} {l : Launch} {e9 : Env} {s : State} {m9 : MethodId} {below : List Frame} {meth : Method} {c9 : Code} {b L : Nat} {xs : Nat → Int32} {D : va_G} {q : Nat → Nat} {qt qo qg qm : Nat} {cI cZ : ClassId} (hL : L ≤ 260) (hfl : l.stackTraces = false) (C0 : lw_At p9 s m9 meth c9 b L xs) (htA : tBA (aL s) s) (hn9 : nC s) (hK : va_K D vwCl (tIZ cI cZ) s) {i x y : Nat} (hi : i < 70) (hx9 : x < 2 ^ 31) (hy : y < 67108864) (k745 : law_tail p9 l e9 s m9 below meth c9 b D q qt qo qg qm cI cZ i x y) {o1 o2 kk z : Nat} (h1 : 1 ≤ o1) (h2 : o1 ≤ 9) (h3 : 1 ≤ o2) (h4 : o2 ≤ 9) {F : Nat → Nat → Int32} {n : Nat} {Rv T M G C : Nat → Int32} {H : Heap} {locs : List Loc} {ls : Array Slot}  (hw : WF F n) (hs : SY F) (hv : IV F n T M G) (hm : C 0 = nI n) (hP : va_P D vwCl (wX q F (nI n) Rv cI cZ ++ [(qt, .inl (cI, 64, .inl (T))), (qo, .inl (cI, 30, .inl (M))), (qg, .inl (cI, 48, .inl (G))), (qm, .inl (cI, 1, .inl (C)))]) H) (hD : va_D (aL s) (wX q F (nI n) Rv cI cZ ++ [(qt, .inl (cI, 64, .inl (T))), (qo, .inl (cI, 30, .inl (M))), (qg, .inl (cI, 48, .inl (G))), (qm, .inl (cI, 1, .inl (C)))])) (hS : va_S (aL s) s.heap H locs) (hl : lv_has ls 17 [(7, .int (nI i)), (6, .int 1), (8, .int (nI x)), (9, .int (nI y)), (10, .int (nI z)), (11, .int (nI o1)), (12, .int (nI o2)), (13, .int (nI kk)), (0, .ref b), (1, .ref (q 9)), (2, .ref qt), (3, .ref qo), (4, .ref qg), (5, .ref qm)]) : W p9 l e9 room_1 s m9 #[Value.ref b] below meth c9 H locs (700 + 320 * i) (4000 + 1900 * i) (lw_Z below #[Value.ref b] s) (F0 m9 489 ls []) := by
  obtain ⟨hx, hb, hr, hml, hown0, hts0, hX, hbl, hlocks, hgv⟩ := id C0
  have hown : s.vm.findClass RL = some m9.cls := hown0
  have hts : ∀ w ∈ wsL_law, w.before #[Value.ref b] s = true := fun w h => hts0 w (wsL_law_in w h)
  have hA : ∀ q : Nat, s.heap.size ≤ q → aL s q := fun _ h => h
  have hbA : ¬ aL s b := Nat.not_le.mpr hbl
  have hn10 := hv.n
  have hn16 := hw.n
  refine lv_iload hx hb dL_law_489 (lv_at hl 3 rfl) ?_
  refine lv_bipush (v := 9) hx hb dL_law_491 (by decide) ?_
  refine lv_idiv hx hb (x := (nI y)) (y := 9) dL_law_493 (by decide) ?_
  refine W.eq (g2 := F0 m9 494 ls (.int (nI (y / 9)) :: [])) (congrArg (fun z => F0 m9 494 ls (Value.int z :: [])) (pk_div (a := y) (d := 9) (by omega) (by omega) (by omega))) ?_
  refine lv_iconst (v := 2) hx hb dL_law_494 (by decide) ?_
  refine lv_irem hx hb (x := (nI (y / 9))) (y := 2) dL_law_495 (by decide) ?_
  refine W.eq (g2 := F0 m9 496 ls (.int (nI ((y / 9) % 2)) :: [])) (congrArg (fun z => F0 m9 496 ls (Value.int z :: [])) (pk_rem (a := (y / 9)) (d := 2) (by omega) (by omega) (by omega))) ?_
  refine lv_istore (lv' := [(14, .int (nI ((y / 9) % 2))), (7, .int (nI i)), (6, .int 1), (8, .int (nI x)), (9, .int (nI y)), (10, .int (nI z)), (11, .int (nI o1)), (12, .int (nI o2)), (13, .int (nI kk)), (0, .ref b), (1, .ref (q 9)), (2, .ref qt), (3, .ref qo), (4, .ref qg), (5, .ref qm)]) hx hb dL_law_496 hl (by decide) rfl (fun ls hl => ?_)
  have hd : y / 9 % 2 < 2 := by omega
  generalize y / 9 % 2 = d at hd hl
  obtain ⟨mm, hmm, em, e30, e31⟩ := hv.b h1 h2
  refine lv_aload_n hx hb dL_law_498 rfl (lv_at hl 12 rfl) ?_
  refine lv_bipush (v := 20) hx hb dL_law_499 (by decide) ?_
  refine lv_iload hx hb dL_law_501 (lv_at hl 6 rfl) ?_
  refine lv_iadd hx hb (x := 20) (y := (nI o1)) dL_law_503 ?_
  refine W.eq (g2 := F0 m9 504 ls (.int (nI (20 + o1)) :: [.ref qo])) (congrArg (fun z => F0 m9 504 ls (Value.int z :: [.ref qo])) (nI_add 20 o1)) ?_
  refine xiald (g := (20 + o1)) hx hb hK hP 11 0 rfl rfl (by omega) (by decide) dL_law_504 ?_
  refine lv_iload hx hb dL_law_505 (lv_at hl 0 rfl) ?_
  refine lv_ishr hx hb (x := (M (20 + o1))) (y := (nI d)) dL_law_507 ?_
  refine lv_iconst (v := 1) hx hb dL_law_508 (by decide) ?_
  refine lv_iand hx hb (x := ((M (20 + o1)) >>> ((nI d) &&& 31))) (y := 1) dL_law_509 ?_
  refine W.eq (g2 := F0 m9 510 ls (.int (F 3 (o1 * 2 + d)) :: [])) (congrArg (fun z => F0 m9 510 ls (Value.int z :: [])) (hv.d h1 h2 hd)) ?_
  refine lv_istore (lv' := [(15, .int (F 3 (o1 * 2 + d))), (14, .int (nI d)), (7, .int (nI i)), (6, .int 1), (8, .int (nI x)), (9, .int (nI y)), (10, .int (nI z)), (11, .int (nI o1)), (12, .int (nI o2)), (13, .int (nI kk)), (0, .ref b), (1, .ref (q 9)), (2, .ref qt), (3, .ref qo), (4, .ref qg), (5, .ref qm)]) hx hb dL_law_510 hl (by decide) rfl (fun ls hl => ?_)
  refine lv_aload_n hx hb dL_law_512 rfl (lv_at hl 13 rfl) ?_
  refine lv_bipush (v := 20) hx hb dL_law_513 (by decide) ?_
  refine lv_iload hx hb dL_law_515 (lv_at hl 7 rfl) ?_
  refine lv_iadd hx hb (x := 20) (y := (nI o1)) dL_law_517 ?_
  refine W.eq (g2 := F0 m9 518 ls (.int (nI (20 + o1)) :: [.ref qo])) (congrArg (fun z => F0 m9 518 ls (Value.int z :: [.ref qo])) (nI_add 20 o1)) ?_
  refine lv_aload_n hx hb dL_law_518 rfl (lv_at hl 13 rfl) ?_
  refine lv_bipush (v := 20) hx hb dL_law_519 (by decide) ?_
  refine lv_iload hx hb dL_law_521 (lv_at hl 7 rfl) ?_
  refine lv_iadd hx hb (x := 20) (y := (nI o1)) dL_law_523 ?_
  refine W.eq (g2 := F0 m9 524 ls (.int (nI (20 + o1)) :: [.ref qo, .int (nI (20 + o1)), .ref qo])) (congrArg (fun z => F0 m9 524 ls (Value.int z :: [.ref qo, .int (nI (20 + o1)), .ref qo])) (nI_add 20 o1)) ?_
  refine xiald (g := (20 + o1)) hx hb hK hP 11 0 rfl rfl (by omega) (by decide) dL_law_524 ?_
  refine W.eq (g2 := F0 m9 525 ls (.int (nI mm) :: [.int (nI (20 + o1)), .ref qo])) (congrArg (fun z => F0 m9 525 ls (Value.int z :: [.int (nI (20 + o1)), .ref qo])) (em)) ?_
  refine lv_iconst (v := 1) hx hb dL_law_525 (by decide) ?_
  refine lv_iload hx hb dL_law_526 (lv_at hl 1 rfl) ?_
  refine lv_ishl hx hb (x := (1 : Int32)) (y := (nI d)) dL_law_528 ?_
  refine lv_iconst (v := (-1)) hx hb dL_law_529 (by decide) ?_
  refine lv_ixor hx hb (x := ((1 : Int32) <<< ((nI d) &&& 31))) (y := (-1)) dL_law_530 ?_
  refine lv_iand hx hb (x := (nI mm)) (y := (((1 : Int32) <<< ((nI d) &&& 31)) ^^^ (-1))) dL_law_531 ?_
  refine lv_iload hx hb dL_law_532 (lv_at hl 5 rfl) ?_
  refine lv_bipush (v := 18) hx hb dL_law_534 (by decide) ?_
  refine lv_idiv hx hb (x := (nI y)) (y := 18) dL_law_536 (by decide) ?_
  refine W.eq (g2 := F0 m9 537 ls (.int (nI (y / 18)) :: [.int ((nI mm) &&& (((1 : Int32) <<< ((nI d) &&& 31)) ^^^ (-1))), .int (nI (20 + o1)), .ref qo])) (congrArg (fun z => F0 m9 537 ls (Value.int z :: [.int ((nI mm) &&& (((1 : Int32) <<< ((nI d) &&& 31)) ^^^ (-1))), .int (nI (20 + o1)), .ref qo])) (pk_div (a := y) (d := 18) (by omega) (by omega) (by omega))) ?_
  refine lv_iconst (v := 3) hx hb dL_law_537 (by decide) ?_
  refine lv_irem hx hb (x := (nI (y / 18))) (y := 3) dL_law_538 (by decide) ?_
  refine W.eq (g2 := F0 m9 539 ls (.int (nI ((y / 18) % 3)) :: [.int ((nI mm) &&& (((1 : Int32) <<< ((nI d) &&& 31)) ^^^ (-1))), .int (nI (20 + o1)), .ref qo])) (congrArg (fun z => F0 m9 539 ls (Value.int z :: [.int ((nI mm) &&& (((1 : Int32) <<< ((nI d) &&& 31)) ^^^ (-1))), .int (nI (20 + o1)), .ref qo])) (pk_rem (a := (y / 18)) (d := 3) (by omega) (by omega) (by omega))) ?_
  refine lv_if_ne (x := (nI ((y / 18) % 3))) (tgt := 549) hx hb dL_law_539 (by decide) (fun c_539 => ?_) (fun c_539 => ?_)
  · have c_539 := nq_ne (k := ((y / 18) % 3)) (n := 0) c_539 (by omega) (by omega)
    refine lv_iconst (v := 0) hx hb dL_law_549 (by decide) ?_
    refine lv_ior hx hb (x := ((nI mm) &&& (((1 : Int32) <<< ((nI d) &&& 31)) ^^^ (-1)))) (y := 0) dL_law_550 ?_
    refine W.eq (g2 := F0 m9 551 ls (.int (nI (bclr mm d)) :: [.int (nI (20 + o1)), .ref qo])) (congrArg (fun z => F0 m9 551 ls (Value.int z :: [.int (nI (20 + o1)), .ref qo])) (bclr_i mm hmm d hd)) ?_
    refine xiast (g := (20 + o1)) (x := (nI (bclr mm d))) hx hb hK hP hD hS 11 0 rfl rfl (by omega) (by decide) dL_law_551 (fun H locs hP hD hS => ?_)
    have hP : va_P D vwCl (wX q F (nI n) Rv cI cZ ++ [(qt, .inl (cI, 64, .inl (T))), (qo, .inl (cI, 30, .inl (upd M (20 + o1) (nI (bclr mm d))))), (qg, .inl (cI, 48, .inl (G))), (qm, .inl (cI, 1, .inl (C)))]) H := hP
    have hD : va_D (aL s) (wX q F (nI n) Rv cI cZ ++ [(qt, .inl (cI, 64, .inl (T))), (qo, .inl (cI, 30, .inl (upd M (20 + o1) (nI (bclr mm d))))), (qg, .inl (cI, 48, .inl (G))), (qm, .inl (cI, 1, .inl (C)))]) := hD
    refine lv_aload_n hx hb dL_law_552 rfl (lv_at hl 11 rfl) ?_
    refine lv_iconst (v := 1) hx hb dL_law_553 (by decide) ?_
    refine lv_iload hx hb dL_law_554 (lv_at hl 7 rfl) ?_
    refine lv_iload hx hb dL_law_556 (lv_at hl 1 rfl) ?_
    refine lv_iload hx hb dL_law_558 (lv_at hl 5 rfl) ?_
    refine lv_bipush (v := 18) hx hb dL_law_560 (by decide) ?_
    refine lv_idiv hx hb (x := (nI y)) (y := 18) dL_law_562 (by decide) ?_
    refine W.eq (g2 := F0 m9 563 ls (.int (nI (y / 18)) :: [.int (nI d), .int (nI o1), .int 1, .ref (q 9)])) (congrArg (fun z => F0 m9 563 ls (Value.int z :: [.int (nI d), .int (nI o1), .int 1, .ref (q 9)])) (pk_div (a := y) (d := 18) (by omega) (by omega) (by omega))) ?_
    refine lv_iconst (v := 3) hx hb dL_law_563 (by decide) ?_
    refine lv_irem hx hb (x := (nI (y / 18))) (y := 3) dL_law_564 (by decide) ?_
    refine W.eq (g2 := F0 m9 565 ls (.int (nI ((y / 18) % 3)) :: [.int (nI d), .int (nI o1), .int 1, .ref (q 9)])) (congrArg (fun z => F0 m9 565 ls (Value.int z :: [.int (nI d), .int (nI o1), .int 1, .ref (q 9)])) (pk_rem (a := (y / 18)) (d := 3) (by omega) (by omega) (by omega))) ?_
    refine lv_if_ne (x := (nI ((y / 18) % 3))) (tgt := 572) hx hb dL_law_565 (by decide) (fun c_565 => ?_) (fun k => (c_539 (nq_eq (k := y / 18 % 3) (n := 0) k (by omega) (by decide)) : False).elim)
    refine lv_iconst (v := 0) hx hb dL_law_572 (by decide) ?_
    refine la_SW (As := [.ref (q 9), .int 1, .int (nI o1), .int (nI d), .int 0]) (rest := []) (wr := [(qt, .inl (cI, 64, .inl (T))), (qo, .inl (cI, 30, .inl (upd M (20 + o1) (nI (bclr mm d))))), (qg, .inl (cI, 48, .inl (G))), (qm, .inl (cI, 1, .inl (C)))]) ⟨hx, hb, hml, hown, hts⟩ (c_L_rule_bar0 l hfl D q F n Rv cI cZ _ (nI o1) (nI d) hw) (vx_cwSW 5 hts gL_law_L_rule rfl rfl rfl (by decide +kernel) ⟨Nat.le_of_ble_eq_true rfl, Nat.le_of_ble_eq_true rfl⟩) hn9 htA hK hP hD hA [0, 1, 2, 3, 4, 5, 6, 7, 8, 9] [10, 11, 12, 13] rfl rfl (by decide) rfl (by decide) (by decide) hS rfl hl.1 rfl (Nat.le_of_ble_eq_true rfl) dL_law_573 ⟨by show _ ≤ 600130; omega, by show _ ≤ 7301080; omega⟩ (fun r9 u9 H locs h_573 hP hD hS => ?_)
    obtain ⟨h9a, h9b⟩ := h_573.1 (thBar_0 (cl_in h1 h2) (lq_in (n := 1) (by omega) (by decide)))
    subst h9a
    obtain rfl : u9 = (fBar F (nI o1) (nI d) false) := h9b
    have hP : va_P D vwCl (wX q (fBar F (nI o1) (nI d) false) (nI n) Rv cI cZ ++ [(qt, .inl (cI, 64, .inl (T))), (qo, .inl (cI, 30, .inl (upd M (20 + o1) (nI (bclr mm d))))), (qg, .inl (cI, 48, .inl (G))), (qm, .inl (cI, 1, .inl (C)))]) H := hP.sub [4, 5, 6, 7, 8, 9, 10, 11, 12, 13, 0, 1, 2, 3] rfl
    have hD : va_D (aL s) (wX q (fBar F (nI o1) (nI d) false) (nI n) Rv cI cZ ++ [(qt, .inl (cI, 64, .inl (T))), (qo, .inl (cI, 30, .inl (upd M (20 + o1) (nI (bclr mm d))))), (qg, .inl (cI, 48, .inl (G))), (qm, .inl (cI, 1, .inl (C)))]) := hD.sub [4, 5, 6, 7, 8, 9, 10, 11, 12, 13, 0, 1, 2, 3] (by decide) rfl
    refine W.eq (g2 := F0 m9 576 ls (.int (F 3 (o1 * 2 + d)) :: [])) (congrArg (fun z => F0 m9 576 ls (Value.int z :: [])) (bar_back hw h2 hd)) ?_
    refine lv_iload hx hb dL_law_576 (lv_at hl 0 rfl) ?_
    refine lv_icmp_ne (x := (F 3 (o1 * 2 + d))) (y := (F 3 (o1 * 2 + d))) (tgt := 585) hx hb dL_law_578 (by decide) (fun k => (k rfl : False).elim) (fun c_578 => ?_)
    refine lv_iconst (v := 1) hx hb dL_law_581 (by decide) ?_
    refine lv_goto (tgt := 586) hx hb dL_law_582 (by decide) ?_
    refine lv_istore (lv' := [(6, .int 1), (15, .int (F 3 (o1 * 2 + d))), (14, .int (nI d)), (7, .int (nI i)), (8, .int (nI x)), (9, .int (nI y)), (10, .int (nI z)), (11, .int (nI o1)), (12, .int (nI o2)), (13, .int (nI kk)), (0, .ref b), (1, .ref (q 9)), (2, .ref qt), (3, .ref qo), (4, .ref qg), (5, .ref qm)]) hx hb dL_law_586 hl (by decide) rfl (fun ls hl => ?_)
    refine lv_goto (tgt := 745) hx hb dL_law_588 (by decide) ?_
    refine W.widen (k := 710 + 320 * i) (n := 4040 + 1900 * i) (by omega) (by omega) ?_
    exact k745 _ _ _ _ _ _ _ _ _ _ (wf_bar hw) (sy_bar hs) (iv_clr hv h1 h2 hd hmm e30 e31) hm hP hD hS (lv_sub hl [3, 0, 4, 5, 10, 11, 12, 13, 14, 15] rfl)
  · have c_539 := nq_eq (k := ((y / 18) % 3)) (n := 0) c_539 (by omega) (by omega)
    refine lv_iconst (v := 1) hx hb dL_law_542 (by decide) ?_
    refine lv_iload hx hb dL_law_543 (lv_at hl 1 rfl) ?_
    refine lv_ishl hx hb (x := (1 : Int32)) (y := (nI d)) dL_law_545 ?_
    refine lv_goto (tgt := 550) hx hb dL_law_546 (by decide) ?_
    refine lv_ior hx hb (x := ((nI mm) &&& (((1 : Int32) <<< ((nI d) &&& 31)) ^^^ (-1)))) (y := ((1 : Int32) <<< ((nI d) &&& 31))) dL_law_550 ?_
    refine W.eq (g2 := F0 m9 551 ls (.int (nI (bset mm d)) :: [.int (nI (20 + o1)), .ref qo])) (congrArg (fun z => F0 m9 551 ls (Value.int z :: [.int (nI (20 + o1)), .ref qo])) (bset_i mm hmm d hd)) ?_
    refine xiast (g := (20 + o1)) (x := (nI (bset mm d))) hx hb hK hP hD hS 11 0 rfl rfl (by omega) (by decide) dL_law_551 (fun H locs hP hD hS => ?_)
    have hP : va_P D vwCl (wX q F (nI n) Rv cI cZ ++ [(qt, .inl (cI, 64, .inl (T))), (qo, .inl (cI, 30, .inl (upd M (20 + o1) (nI (bset mm d))))), (qg, .inl (cI, 48, .inl (G))), (qm, .inl (cI, 1, .inl (C)))]) H := hP
    have hD : va_D (aL s) (wX q F (nI n) Rv cI cZ ++ [(qt, .inl (cI, 64, .inl (T))), (qo, .inl (cI, 30, .inl (upd M (20 + o1) (nI (bset mm d))))), (qg, .inl (cI, 48, .inl (G))), (qm, .inl (cI, 1, .inl (C)))]) := hD
    refine lv_aload_n hx hb dL_law_552 rfl (lv_at hl 11 rfl) ?_
    refine lv_iconst (v := 1) hx hb dL_law_553 (by decide) ?_
    refine lv_iload hx hb dL_law_554 (lv_at hl 7 rfl) ?_
    refine lv_iload hx hb dL_law_556 (lv_at hl 1 rfl) ?_
    refine lv_iload hx hb dL_law_558 (lv_at hl 5 rfl) ?_
    refine lv_bipush (v := 18) hx hb dL_law_560 (by decide) ?_
    refine lv_idiv hx hb (x := (nI y)) (y := 18) dL_law_562 (by decide) ?_
    refine W.eq (g2 := F0 m9 563 ls (.int (nI (y / 18)) :: [.int (nI d), .int (nI o1), .int 1, .ref (q 9)])) (congrArg (fun z => F0 m9 563 ls (Value.int z :: [.int (nI d), .int (nI o1), .int 1, .ref (q 9)])) (pk_div (a := y) (d := 18) (by omega) (by omega) (by omega))) ?_
    refine lv_iconst (v := 3) hx hb dL_law_563 (by decide) ?_
    refine lv_irem hx hb (x := (nI (y / 18))) (y := 3) dL_law_564 (by decide) ?_
    refine W.eq (g2 := F0 m9 565 ls (.int (nI ((y / 18) % 3)) :: [.int (nI d), .int (nI o1), .int 1, .ref (q 9)])) (congrArg (fun z => F0 m9 565 ls (Value.int z :: [.int (nI d), .int (nI o1), .int 1, .ref (q 9)])) (pk_rem (a := (y / 18)) (d := 3) (by omega) (by omega) (by omega))) ?_
    refine lv_if_ne (x := (nI ((y / 18) % 3))) (tgt := 572) hx hb dL_law_565 (by decide) (fun k => (k (congrArg nI c_539) : False).elim) (fun c_565 => ?_)
    refine lv_iconst (v := 1) hx hb dL_law_568 (by decide) ?_
    refine lv_goto (tgt := 573) hx hb dL_law_569 (by decide) ?_
    refine la_SW (As := [.ref (q 9), .int 1, .int (nI o1), .int (nI d), .int 1]) (rest := []) (wr := [(qt, .inl (cI, 64, .inl (T))), (qo, .inl (cI, 30, .inl (upd M (20 + o1) (nI (bset mm d))))), (qg, .inl (cI, 48, .inl (G))), (qm, .inl (cI, 1, .inl (C)))]) ⟨hx, hb, hml, hown, hts⟩ (c_L_rule_bar1 l hfl D q F n Rv cI cZ _ (nI o1) (nI d) hw) (vx_cwSW 5 hts gL_law_L_rule rfl rfl rfl (by decide +kernel) ⟨Nat.le_of_ble_eq_true rfl, Nat.le_of_ble_eq_true rfl⟩) hn9 htA hK hP hD hA [0, 1, 2, 3, 4, 5, 6, 7, 8, 9] [10, 11, 12, 13] rfl rfl (by decide) rfl (by decide) (by decide) hS rfl hl.1 rfl (Nat.le_of_ble_eq_true rfl) dL_law_573 ⟨by show _ ≤ 600130; omega, by show _ ≤ 7301080; omega⟩ (fun r9 u9 H locs h_573 hP hD hS => ?_)
    obtain ⟨h9a, h9b⟩ := h_573.1 (thBar_0 (cl_in h1 h2) (lq_in (n := 1) (by omega) (by decide)))
    subst h9a
    obtain rfl : u9 = (fBar F (nI o1) (nI d) true) := h9b
    have hP : va_P D vwCl (wX q (fBar F (nI o1) (nI d) true) (nI n) Rv cI cZ ++ [(qt, .inl (cI, 64, .inl (T))), (qo, .inl (cI, 30, .inl (upd M (20 + o1) (nI (bset mm d))))), (qg, .inl (cI, 48, .inl (G))), (qm, .inl (cI, 1, .inl (C)))]) H := hP.sub [4, 5, 6, 7, 8, 9, 10, 11, 12, 13, 0, 1, 2, 3] rfl
    have hD : va_D (aL s) (wX q (fBar F (nI o1) (nI d) true) (nI n) Rv cI cZ ++ [(qt, .inl (cI, 64, .inl (T))), (qo, .inl (cI, 30, .inl (upd M (20 + o1) (nI (bset mm d))))), (qg, .inl (cI, 48, .inl (G))), (qm, .inl (cI, 1, .inl (C)))]) := hD.sub [4, 5, 6, 7, 8, 9, 10, 11, 12, 13, 0, 1, 2, 3] (by decide) rfl
    refine W.eq (g2 := F0 m9 576 ls (.int (F 3 (o1 * 2 + d)) :: [])) (congrArg (fun z => F0 m9 576 ls (Value.int z :: [])) (bar_back hw h2 hd)) ?_
    refine lv_iload hx hb dL_law_576 (lv_at hl 0 rfl) ?_
    refine lv_icmp_ne (x := (F 3 (o1 * 2 + d))) (y := (F 3 (o1 * 2 + d))) (tgt := 585) hx hb dL_law_578 (by decide) (fun k => (k rfl : False).elim) (fun c_578 => ?_)
    refine lv_iconst (v := 1) hx hb dL_law_581 (by decide) ?_
    refine lv_goto (tgt := 586) hx hb dL_law_582 (by decide) ?_
    refine lv_istore (lv' := [(6, .int 1), (15, .int (F 3 (o1 * 2 + d))), (14, .int (nI d)), (7, .int (nI i)), (8, .int (nI x)), (9, .int (nI y)), (10, .int (nI z)), (11, .int (nI o1)), (12, .int (nI o2)), (13, .int (nI kk)), (0, .ref b), (1, .ref (q 9)), (2, .ref qt), (3, .ref qo), (4, .ref qg), (5, .ref qm)]) hx hb dL_law_586 hl (by decide) rfl (fun ls hl => ?_)
    refine lv_goto (tgt := 745) hx hb dL_law_588 (by decide) ?_
    refine W.widen (k := 710 + 320 * i) (n := 4040 + 1900 * i) (by omega) (by omega) ?_
    exact k745 _ _ _ _ _ _ _ _ _ _ (wf_bar hw) (sy_bar hs) (iv_set hv h1 h2 hd hmm e30 e31) hm hP hD hS (lv_sub hl [3, 0, 4, 5, 10, 11, 12, 13, 14, 15] rfl)

/-! the law's cases -/
set_option maxHeartbeats 4000000 in
set_option maxRecDepth 100000 in
theorem law_c4 {p9 : Program} {l : Launch} {e9 : Env} {s : State} {m9 : MethodId} {below : List Frame} {meth : Method} {c9 : Code} {b L : Nat} {xs : Nat → Int32} (hL : L ≤ 2048) (hfl : l.stackTraces = false) (C0 : lw_At p9 s m9 meth c9 b L xs) (ht : tB s) (hn9 : nC s) {D : va_G} {qx qm : Nat → Nat} {qo : Nat} {cI cZ cL : ClassId} (hK : va_K D vwCl (tIZL cI cZ cL) s) {i : Nat} (hi : i + 4 ≤ L) {F : Nat → Nat → Int32} {n : Nat} (hw : WF F n) (hs : SY F) {Rx Rm : Nat → Int32} {th : Int32} {o : Nat → Int64} {H : Heap} {locs : List Loc} {ls : Array Slot} (hP : va_P D vwCl (wAll qx F n Rx qo o qm F n Rm th cI cZ cL) H) (hD : va_D (aL s) (wAll qx F n Rx qo o qm F n Rm th cI cZ cL)) (hS : va_S (aL s) s.heap H locs) (hl : lv_has ls 7 [(4, .int (nI i)), (0, .ref b), (1, .ref (qx 9)), (2, .ref (qm 9)), (3, .ref qo)]) (ih : law_next p9 l e9 s m9 below meth c9 b D qx qm qo cI cZ cL (i + 4)) : W p9 l e9 room_1 s m9 #[Value.ref b] below meth c9 H locs (21 + 2 * i) (462 + 8 * i) (lw_Z below #[Value.ref b] s) (F0 m9 447 ls []) := by
  obtain ⟨hx, hb, hr, hml, hown0, hts0, hX, hbl, hlocks, hgv⟩ := id C0
  have hown : s.vm.findClass RL = some m9.cls := hown0
  have hts : ∀ w ∈ wsL_law, w.before #[Value.ref b] s = true := fun w h => hts0 w (wsL_law_in w h)
  have hbA : ¬ aL s b := Nat.not_le.mpr hbl
  refine lv_aload_n hx hb dL_law_447 rfl (lv_at hl 2 rfl) ?_
  refine lv_aload_n hx hb dL_law_448 rfl (lv_at hl 1 rfl) ?_
  refine lv_iload hx hb dL_law_449 (lv_at hl 0 rfl) ?_
  refine lv_iconst (v := 1) hx hb dL_law_451 (by decide) ?_
  refine lv_iadd hx hb (x := (nI i)) (y := 1) dL_law_452 ?_
  refine W.eq (g2 := F0 m9 453 ls (.int (nI (i + 1)) :: [.ref b, .ref (qx 9)])) (congrArg (fun z => F0 m9 453 ls (Value.int z :: [.ref b, .ref (qx 9)])) (nI_add i 1)) ?_
  refine xsld hx hb hX hbl hbA hS (k := (i + 1)) (by omega) (by omega) dL_law_453 ?_
  refine lv_aload_n hx hb dL_law_454 rfl (lv_at hl 1 rfl) ?_
  refine lv_iload hx hb dL_law_455 (lv_at hl 0 rfl) ?_
  refine lv_iconst (v := 2) hx hb dL_law_457 (by decide) ?_
  refine lv_iadd hx hb (x := (nI i)) (y := 2) dL_law_458 ?_
  refine W.eq (g2 := F0 m9 459 ls (.int (nI (i + 2)) :: [.ref b, .int (xs (i + 1)), .ref (qx 9)])) (congrArg (fun z => F0 m9 459 ls (Value.int z :: [.ref b, .int (xs (i + 1)), .ref (qx 9)])) (nI_add i 2)) ?_
  refine xsld hx hb hX hbl hbA hS (k := (i + 2)) (by omega) (by omega) dL_law_459 ?_
  refine lv_aload_n hx hb dL_law_460 rfl (lv_at hl 1 rfl) ?_
  refine lv_iload hx hb dL_law_461 (lv_at hl 0 rfl) ?_
  refine lv_iconst (v := 3) hx hb dL_law_463 (by decide) ?_
  refine lv_iadd hx hb (x := (nI i)) (y := 3) dL_law_464 ?_
  refine W.eq (g2 := F0 m9 465 ls (.int (nI (i + 3)) :: [.ref b, .int (xs (i + 2)), .int (xs (i + 1)), .ref (qx 9)])) (congrArg (fun z => F0 m9 465 ls (Value.int z :: [.ref b, .int (xs (i + 2)), .int (xs (i + 1)), .ref (qx 9)])) (nI_add i 3)) ?_
  refine xsld hx hb hX hbl hbA hS (k := (i + 3)) (by omega) (by omega) dL_law_465 ?_
  refine lv_aload_n hx hb dL_law_466 rfl (lv_at hl 4 rfl) ?_
  refine l_S (As := [.ref (qx 9), .int (xs (i + 1)), .int (xs (i + 2)), .int (xs (i + 3)), .ref qo]) (rest := []) (wr := wM qm F (nI n) Rm th cI cZ) ⟨hx, hb, hml, hown, hts⟩ (c_L_add l hfl D qx F n Rx qo o cI cZ cL _ (xs (i + 1)) (xs (i + 2)) (xs (i + 3)) hw) (vx_cwSW 5 hts gL_law_L_add rfl rfl rfl (by decide +kernel) ⟨Nat.le_of_ble_eq_true rfl, Nat.le_of_ble_eq_true rfl⟩) hn9 ht hK hP hD [0, 1, 2, 3, 4, 5, 6, 7, 8, 9, 10] [11, 12, 13, 14, 15, 16, 17, 18, 19, 20] rfl rfl (by decide) rfl (by decide) (by decide) hS rfl hl.1 rfl (Nat.le_of_ble_eq_true rfl) dL_law_467 ⟨by show _ ≤ 647008; omega, by show _ ≤ 7155079; omega⟩ (fun r8 u8 H locs h8 hP hD hS => ?_)
  obtain ⟨F8, n8, o8⟩ := u8
  obtain ⟨rfl, h8b, h8c⟩ := h8
  have hP : va_P D vwCl (wAll qx F8 n8 Rx qo o8 qm F n Rm th cI cZ cL) H := hP.sub [10, 11, 12, 13, 14, 15, 16, 17, 18, 19, 20, 0, 1, 2, 3, 4, 5, 6, 7, 8, 9] rfl
  have hD : va_D (aL s) (wAll qx F8 n8 Rx qo o8 qm F n Rm th cI cZ cL) := hD.sub [10, 11, 12, 13, 14, 15, 16, 17, 18, 19, 20, 0, 1, 2, 3, 4, 5, 6, 7, 8, 9] (by decide) rfl
  refine lv_istore (lv' := [(5, .int (thAdd n (xs (i + 1)) (xs (i + 2)) (xs (i + 3)))), (4, .int (nI i)), (0, .ref b), (1, .ref (qx 9)), (2, .ref (qm 9)), (3, .ref qo)]) hx hb dL_law_470 hl (by decide) rfl (fun ls hl => ?_)
  refine lv_aload_n hx hb dL_law_472 rfl (lv_at hl 4 rfl) ?_
  refine lv_aload_n hx hb dL_law_473 rfl (lv_at hl 2 rfl) ?_
  refine lv_iload hx hb dL_law_474 (lv_at hl 1 rfl) ?_
  refine lv_iconst (v := 1) hx hb dL_law_476 (by decide) ?_
  refine lv_iadd hx hb (x := (nI i)) (y := 1) dL_law_477 ?_
  refine W.eq (g2 := F0 m9 478 ls (.int (nI (i + 1)) :: [.ref b, .ref (qm 9)])) (congrArg (fun z => F0 m9 478 ls (Value.int z :: [.ref b, .ref (qm 9)])) (nI_add i 1)) ?_
  refine xsld hx hb hX hbl hbA hS (k := (i + 1)) (by omega) (by omega) dL_law_478 ?_
  refine lv_aload_n hx hb dL_law_479 rfl (lv_at hl 2 rfl) ?_
  refine lv_iload hx hb dL_law_480 (lv_at hl 1 rfl) ?_
  refine lv_iconst (v := 2) hx hb dL_law_482 (by decide) ?_
  refine lv_iadd hx hb (x := (nI i)) (y := 2) dL_law_483 ?_
  refine W.eq (g2 := F0 m9 484 ls (.int (nI (i + 2)) :: [.ref b, .int (xs (i + 1)), .ref (qm 9)])) (congrArg (fun z => F0 m9 484 ls (Value.int z :: [.ref b, .int (xs (i + 1)), .ref (qm 9)])) (nI_add i 2)) ?_
  refine xsld hx hb hX hbl hbA hS (k := (i + 2)) (by omega) (by omega) dL_law_484 ?_
  refine lv_aload_n hx hb dL_law_485 rfl (lv_at hl 2 rfl) ?_
  refine lv_iload hx hb dL_law_486 (lv_at hl 1 rfl) ?_
  refine lv_iconst (v := 3) hx hb dL_law_488 (by decide) ?_
  refine lv_iadd hx hb (x := (nI i)) (y := 3) dL_law_489 ?_
  refine W.eq (g2 := F0 m9 490 ls (.int (nI (i + 3)) :: [.ref b, .int (xs (i + 2)), .int (xs (i + 1)), .ref (qm 9)])) (congrArg (fun z => F0 m9 490 ls (Value.int z :: [.ref b, .int (xs (i + 2)), .int (xs (i + 1)), .ref (qm 9)])) (nI_add i 3)) ?_
  refine xsld hx hb hX hbl hbA hS (k := (i + 3)) (by omega) (by omega) dL_law_490 ?_
  refine wr_V (As := [.int (xs (i + 1)), .int (xs (i + 2)), .int (xs (i + 3))]) (rest := []) (wr := (wXo qx F8 (nI n8) Rx qo o8 cI cZ cL)) ⟨hx, hb, hml, hown, hts⟩ (c_X1_add l D qm F n Rm th cI cZ _ (xs (i + 1)) (xs (i + 2)) (xs (i + 3)) hw) (cwV 3 hts gL_law_X1_add rfl rfl rfl (by decide +kernel) ⟨Nat.le_of_ble_eq_true rfl, Nat.le_of_ble_eq_true rfl⟩) (hK.sub [0, 1] rfl) hP hD (fun q h => h) [11, 12, 13, 14, 15, 16, 17, 18, 19, 20] [0, 1, 2, 3, 4, 5, 6, 7, 8, 9, 10] rfl rfl (by decide) rfl (by decide) (by decide) (va_recv hK hP (ci := 1) (q0 := 11) rfl rfl) hS rfl hl.1 rfl (Nat.le_of_ble_eq_true rfl) dL_law_491 ⟨by show _ ≤ 647008; omega, by show _ ≤ 7155079; omega⟩ (fun r9 u9 H locs h9 hP hD hS => ?_)
  obtain ⟨t9, F9, n9⟩ := u9
  obtain ⟨h9a, h9b, h9c⟩ := h9
  obtain rfl : t9 = thAdd n (xs (i + 1)) (xs (i + 2)) (xs (i + 3)) := h9a
  have hP : va_P D vwCl (wAll qx F8 n8 Rx qo o8 qm F9 n9 Rm (thAdd n (xs (i + 1)) (xs (i + 2)) (xs (i + 3))) cI cZ cL) H := hP
  have hD : va_D (aL s) (wAll qx F8 n8 Rx qo o8 qm F9 n9 Rm (thAdd n (xs (i + 1)) (xs (i + 2)) (xs (i + 3))) cI cZ cL) := hD
  refine lv_istore (lv' := [(6, .int r9), (5, .int (thAdd n (xs (i + 1)) (xs (i + 2)) (xs (i + 3)))), (4, .int (nI i)), (0, .ref b), (1, .ref (qx 9)), (2, .ref (qm 9)), (3, .ref qo)]) hx hb dL_law_494 hl (by decide) rfl (fun ls hl => ?_)
  refine lv_aload_n hx hb dL_law_496 rfl (lv_at hl 5 rfl) ?_
  refine ro_V (As := []) (rest := []) ⟨hx, hb, hml, hown, hts⟩ (c_X1_thrown l D qm F9 n9 Rm (thAdd n (xs (i + 1)) (xs (i + 2)) (xs (i + 3))) cI cZ) (cwV 0 hts gL_law_X1_thrown rfl rfl rfl (by decide +kernel) ⟨Nat.le_of_ble_eq_true rfl, Nat.le_of_ble_eq_true rfl⟩) (hK.sub [0, 1] rfl) hP (hP.sub [11, 12, 13, 14, 15, 16, 17, 18, 19, 20] rfl) (va_recv hK hP (ci := 1) (q0 := 11) rfl rfl) hS rfl hl.1 rfl (Nat.le_of_ble_eq_true rfl) dL_law_497 ⟨by show _ ≤ 647008; omega, by show _ ≤ 7155079; omega⟩ (fun r H locs hr9 hP hS => ?_)
  subst hr9
  refine lv_iload hx hb dL_law_500 (lv_at hl 1 rfl) ?_
  refine lv_icmp_eq (x := (thAdd n (xs (i + 1)) (xs (i + 2)) (xs (i + 3)))) (y := (thAdd n (xs (i + 1)) (xs (i + 2)) (xs (i + 3)))) (tgt := 507) hx hb dL_law_502 (by decide) (fun c_502 => ?_) (fun c_502 => absurd rfl c_502)
  refine lv_iload hx hb dL_law_507 (lv_at hl 1 rfl) ?_
  refine lv_if_ne (x := (thAdd n (xs (i + 1)) (xs (i + 2)) (xs (i + 3)))) (tgt := 524) hx hb dL_law_509 (by decide) (fun c_509 => ?_) (fun c_509 => ?_)
  · obtain rfl : F = F8 := (h8c c_509).1.symm
    obtain rfl : n = n8 := (h8c c_509).2.symm
    obtain rfl : F = F9 := (h9c c_509).1.symm
    obtain rfl : n = n9 := (h9c c_509).2.symm
    have hP : va_P D vwCl (wAll qx F n Rx qo o8 qm F n Rm (thAdd n (xs (i + 1)) (xs (i + 2)) (xs (i + 3))) cI cZ cL) H := hP
    have hD : va_D (aL s) (wAll qx F n Rx qo o8 qm F n Rm (thAdd n (xs (i + 1)) (xs (i + 2)) (xs (i + 3))) cI cZ cL) := hD
    refine lv_goto (tgt := 1303) hx hb dL_law_524 (by decide) ?_
    refine lv_iinc (v := (nI (i + 4))) (lv' := [(4, .int (nI (i + 4))), (6, .int r9), (5, .int (thAdd n (xs (i + 1)) (xs (i + 2)) (xs (i + 3)))), (0, .ref b), (1, .ref (qx 9)), (2, .ref (qm 9)), (3, .ref qo)]) hx hb dL_law_1303 hl (k := 2) rfl (nI_add i 4) (by decide) rfl (fun ls hl => ?_)
    refine lv_goto (tgt := 23) hx hb dL_law_1306 (by decide) ?_
    refine W.widen (k := 21 + 2 * (i + 4)) (n := 462 + 8 * (i + 4)) (by omega) (by omega) ?_
    exact ih F n _ _ _ _ _ _ _ hw hs hP hD hS (lv_sub hl [0, 3, 4, 5, 6] rfl)
  · obtain ⟨e8, e8f, e8n⟩ := h8b c_509
    obtain ⟨e9, e9f, e9n⟩ := h9b c_509
    obtain rfl : F8 = (fAdd F n (xs (i + 1)) (xs (i + 2)) (xs (i + 3))) := e8f
    obtain rfl : n8 = n + 1 := e8n
    obtain rfl : F9 = (fAdd F n (xs (i + 1)) (xs (i + 2)) (xs (i + 3))) := e9f
    obtain rfl : n9 = n + 1 := e9n
    subst e9
    have hP : va_P D vwCl (wAll qx (fAdd F n (xs (i + 1)) (xs (i + 2)) (xs (i + 3))) (n + 1) Rx qo o8 qm (fAdd F n (xs (i + 1)) (xs (i + 2)) (xs (i + 3))) (n + 1) Rm (thAdd n (xs (i + 1)) (xs (i + 2)) (xs (i + 3))) cI cZ cL) H := hP
    have hD : va_D (aL s) (wAll qx (fAdd F n (xs (i + 1)) (xs (i + 2)) (xs (i + 3))) (n + 1) Rx qo o8 qm (fAdd F n (xs (i + 1)) (xs (i + 2)) (xs (i + 3))) (n + 1) Rm (thAdd n (xs (i + 1)) (xs (i + 2)) (xs (i + 3))) cI cZ cL) := hD
    refine lv_aload_n hx hb dL_law_512 rfl (lv_at hl 6 rfl) ?_
    refine lv_iconst (v := 0) hx hb dL_law_513 (by decide) ?_
    refine va_lald hx hb hK hP 10 2 rfl rfl (i := 0) in_01 dL_law_514 ?_
    refine lv_iload hx hb dL_law_515 (lv_at hl 0 rfl) ?_
    refine lv_i2l hx hb dL_law_517 rfl ?_
    refine W.lcmp hx hb dL_law_518 ?_
    refine W.eq (g2 := F0 m9 519 ls (.int 0 :: [])) (congrArg (fun z => F0 m9 519 ls (Value.int z :: [])) (lg_eq e8)) ?_
    refine lv_if_eq (x := 0) (tgt := 524) hx hb dL_law_519 (by decide) (fun _ => ?_) (fun k => absurd (by decide) k)
    refine lv_goto (tgt := 1303) hx hb dL_law_524 (by decide) ?_
    refine lv_iinc (v := (nI (i + 4))) (lv' := [(4, .int (nI (i + 4))), (6, .int (nI n)), (5, .int (thAdd n (xs (i + 1)) (xs (i + 2)) (xs (i + 3)))), (0, .ref b), (1, .ref (qx 9)), (2, .ref (qm 9)), (3, .ref qo)]) hx hb dL_law_1303 hl (k := 2) rfl (nI_add i 4) (by decide) rfl (fun ls hl => ?_)
    refine lv_goto (tgt := 23) hx hb dL_law_1306 (by decide) ?_
    refine W.widen (k := 21 + 2 * (i + 4)) (n := 462 + 8 * (i + 4)) (by omega) (by omega) ?_
    exact ih (fAdd F n (xs (i + 1)) (xs (i + 2)) (xs (i + 3))) (n + 1) _ _ _ _ _ _ _ (wf_add hw c_509) (sy_add hs) hP hD hS (lv_sub hl [0, 3, 4, 5, 6] rfl)
set_option maxHeartbeats 4000000 in
set_option maxRecDepth 100000 in
theorem law_c5 {p9 : Program} {l : Launch} {e9 : Env} {s : State} {m9 : MethodId} {below : List Frame} {meth : Method} {c9 : Code} {b L : Nat} {xs : Nat → Int32} (hL : L ≤ 2048) (hfl : l.stackTraces = false) (C0 : lw_At p9 s m9 meth c9 b L xs) (ht : tB s) (hn9 : nC s) {D : va_G} {qx qm : Nat → Nat} {qo : Nat} {cI cZ cL : ClassId} (hK : va_K D vwCl (tIZL cI cZ cL) s) {i : Nat} (hi : i + 4 ≤ L) {F : Nat → Nat → Int32} {n : Nat} (hw : WF F n) (hs : SY F) {Rx Rm : Nat → Int32} {th : Int32} {o : Nat → Int64} {H : Heap} {locs : List Loc} {ls : Array Slot} (hP : va_P D vwCl (wAll qx F n Rx qo o qm F n Rm th cI cZ cL) H) (hD : va_D (aL s) (wAll qx F n Rx qo o qm F n Rm th cI cZ cL)) (hS : va_S (aL s) s.heap H locs) (hl : lv_has ls 7 [(4, .int (nI i)), (0, .ref b), (1, .ref (qx 9)), (2, .ref (qm 9)), (3, .ref qo)]) (ih : law_next p9 l e9 s m9 below meth c9 b D qx qm qo cI cZ cL (i + 4)) : W p9 l e9 room_1 s m9 #[Value.ref b] below meth c9 H locs (21 + 2 * i) (462 + 8 * i) (lw_Z below #[Value.ref b] s) (F0 m9 527 ls []) := by
  obtain ⟨hx, hb, hr, hml, hown0, hts0, hX, hbl, hlocks, hgv⟩ := id C0
  have hown : s.vm.findClass RL = some m9.cls := hown0
  have hts : ∀ w ∈ wsL_law, w.before #[Value.ref b] s = true := fun w h => hts0 w (wsL_law_in w h)
  have hbA : ¬ aL s b := Nat.not_le.mpr hbl
  refine lv_aload_n hx hb dL_law_527 rfl (lv_at hl 2 rfl) ?_
  refine lv_aload_n hx hb dL_law_528 rfl (lv_at hl 1 rfl) ?_
  refine lv_iload hx hb dL_law_529 (lv_at hl 0 rfl) ?_
  refine lv_iconst (v := 1) hx hb dL_law_531 (by decide) ?_
  refine lv_iadd hx hb (x := (nI i)) (y := 1) dL_law_532 ?_
  refine W.eq (g2 := F0 m9 533 ls (.int (nI (i + 1)) :: [.ref b, .ref (qx 9)])) (congrArg (fun z => F0 m9 533 ls (Value.int z :: [.ref b, .ref (qx 9)])) (nI_add i 1)) ?_
  refine xsld hx hb hX hbl hbA hS (k := (i + 1)) (by omega) (by omega) dL_law_533 ?_
  refine lv_aload_n hx hb dL_law_534 rfl (lv_at hl 1 rfl) ?_
  refine lv_iload hx hb dL_law_535 (lv_at hl 0 rfl) ?_
  refine lv_iconst (v := 2) hx hb dL_law_537 (by decide) ?_
  refine lv_iadd hx hb (x := (nI i)) (y := 2) dL_law_538 ?_
  refine W.eq (g2 := F0 m9 539 ls (.int (nI (i + 2)) :: [.ref b, .int (xs (i + 1)), .ref (qx 9)])) (congrArg (fun z => F0 m9 539 ls (Value.int z :: [.ref b, .int (xs (i + 1)), .ref (qx 9)])) (nI_add i 2)) ?_
  refine xsld hx hb hX hbl hbA hS (k := (i + 2)) (by omega) (by omega) dL_law_539 ?_
  refine lv_aload_n hx hb dL_law_540 rfl (lv_at hl 4 rfl) ?_
  refine l_S (As := [.ref (qx 9), .int (xs (i + 1)), .int (xs (i + 2)), .ref qo]) (rest := []) (wr := wM qm F (nI n) Rm th cI cZ) ⟨hx, hb, hml, hown, hts⟩ (c_L_setQuantity l hfl D qx F n Rx qo o cI cZ cL _ (xs (i + 1)) (xs (i + 2)) hw) (vx_cwSW 4 hts gL_law_L_setQuantity rfl rfl rfl (by decide +kernel) ⟨Nat.le_of_ble_eq_true rfl, Nat.le_of_ble_eq_true rfl⟩) hn9 ht hK hP hD [0, 1, 2, 3, 4, 5, 6, 7, 8, 9, 10] [11, 12, 13, 14, 15, 16, 17, 18, 19, 20] rfl rfl (by decide) rfl (by decide) (by decide) hS rfl hl.1 rfl (Nat.le_of_ble_eq_true rfl) dL_law_541 ⟨by show _ ≤ 647008; omega, by show _ ≤ 7155079; omega⟩ (fun r8 u8 H locs h8 hP hD hS => ?_)
  obtain ⟨F8, o8⟩ := u8
  obtain ⟨rfl, h8b, h8c⟩ := h8
  have hP : va_P D vwCl (wAll qx F8 n Rx qo o8 qm F n Rm th cI cZ cL) H := hP.sub [10, 11, 12, 13, 14, 15, 16, 17, 18, 19, 20, 0, 1, 2, 3, 4, 5, 6, 7, 8, 9] rfl
  have hD : va_D (aL s) (wAll qx F8 n Rx qo o8 qm F n Rm th cI cZ cL) := hD.sub [10, 11, 12, 13, 14, 15, 16, 17, 18, 19, 20, 0, 1, 2, 3, 4, 5, 6, 7, 8, 9] (by decide) rfl
  refine lv_istore (lv' := [(5, .int (thQ n (xs (i + 1)) (xs (i + 2)))), (4, .int (nI i)), (0, .ref b), (1, .ref (qx 9)), (2, .ref (qm 9)), (3, .ref qo)]) hx hb dL_law_544 hl (by decide) rfl (fun ls hl => ?_)
  refine lv_aload_n hx hb dL_law_546 rfl (lv_at hl 4 rfl) ?_
  refine lv_aload_n hx hb dL_law_547 rfl (lv_at hl 2 rfl) ?_
  refine lv_iload hx hb dL_law_548 (lv_at hl 1 rfl) ?_
  refine lv_iconst (v := 1) hx hb dL_law_550 (by decide) ?_
  refine lv_iadd hx hb (x := (nI i)) (y := 1) dL_law_551 ?_
  refine W.eq (g2 := F0 m9 552 ls (.int (nI (i + 1)) :: [.ref b, .ref (qm 9)])) (congrArg (fun z => F0 m9 552 ls (Value.int z :: [.ref b, .ref (qm 9)])) (nI_add i 1)) ?_
  refine xsld hx hb hX hbl hbA hS (k := (i + 1)) (by omega) (by omega) dL_law_552 ?_
  refine lv_aload_n hx hb dL_law_553 rfl (lv_at hl 2 rfl) ?_
  refine lv_iload hx hb dL_law_554 (lv_at hl 1 rfl) ?_
  refine lv_iconst (v := 2) hx hb dL_law_556 (by decide) ?_
  refine lv_iadd hx hb (x := (nI i)) (y := 2) dL_law_557 ?_
  refine W.eq (g2 := F0 m9 558 ls (.int (nI (i + 2)) :: [.ref b, .int (xs (i + 1)), .ref (qm 9)])) (congrArg (fun z => F0 m9 558 ls (Value.int z :: [.ref b, .int (xs (i + 1)), .ref (qm 9)])) (nI_add i 2)) ?_
  refine xsld hx hb hX hbl hbA hS (k := (i + 2)) (by omega) (by omega) dL_law_558 ?_
  refine wr_V (As := [.int (xs (i + 1)), .int (xs (i + 2))]) (rest := []) (wr := (wXo qx F8 (nI n) Rx qo o8 cI cZ cL)) ⟨hx, hb, hml, hown, hts⟩ (c_X1_setQuantity l D qm F n Rm th cI cZ _ (xs (i + 1)) (xs (i + 2)) hw) (cwV 2 hts gL_law_X1_setQuantity rfl rfl rfl (by decide +kernel) ⟨Nat.le_of_ble_eq_true rfl, Nat.le_of_ble_eq_true rfl⟩) (hK.sub [0, 1] rfl) hP hD (fun q h => h) [11, 12, 13, 14, 15, 16, 17, 18, 19, 20] [0, 1, 2, 3, 4, 5, 6, 7, 8, 9, 10] rfl rfl (by decide) rfl (by decide) (by decide) (va_recv hK hP (ci := 1) (q0 := 11) rfl rfl) hS rfl hl.1 rfl (Nat.le_of_ble_eq_true rfl) dL_law_559 ⟨by show _ ≤ 647008; omega, by show _ ≤ 7155079; omega⟩ (fun r9 u9 H locs h9 hP hD hS => ?_)
  obtain ⟨t9, F9⟩ := u9
  obtain ⟨h9a, h9b, h9c⟩ := h9
  obtain rfl : t9 = thQ n (xs (i + 1)) (xs (i + 2)) := h9a
  have hP : va_P D vwCl (wAll qx F8 n Rx qo o8 qm F9 n Rm (thQ n (xs (i + 1)) (xs (i + 2))) cI cZ cL) H := hP
  have hD : va_D (aL s) (wAll qx F8 n Rx qo o8 qm F9 n Rm (thQ n (xs (i + 1)) (xs (i + 2))) cI cZ cL) := hD
  refine lv_istore (lv' := [(6, .int r9), (5, .int (thQ n (xs (i + 1)) (xs (i + 2)))), (4, .int (nI i)), (0, .ref b), (1, .ref (qx 9)), (2, .ref (qm 9)), (3, .ref qo)]) hx hb dL_law_562 hl (by decide) rfl (fun ls hl => ?_)
  refine lv_aload_n hx hb dL_law_564 rfl (lv_at hl 5 rfl) ?_
  refine ro_V (As := []) (rest := []) ⟨hx, hb, hml, hown, hts⟩ (c_X1_thrown l D qm F9 n Rm (thQ n (xs (i + 1)) (xs (i + 2))) cI cZ) (cwV 0 hts gL_law_X1_thrown rfl rfl rfl (by decide +kernel) ⟨Nat.le_of_ble_eq_true rfl, Nat.le_of_ble_eq_true rfl⟩) (hK.sub [0, 1] rfl) hP (hP.sub [11, 12, 13, 14, 15, 16, 17, 18, 19, 20] rfl) (va_recv hK hP (ci := 1) (q0 := 11) rfl rfl) hS rfl hl.1 rfl (Nat.le_of_ble_eq_true rfl) dL_law_565 ⟨by show _ ≤ 647008; omega, by show _ ≤ 7155079; omega⟩ (fun r H locs hr9 hP hS => ?_)
  subst hr9
  refine lv_iload hx hb dL_law_568 (lv_at hl 1 rfl) ?_
  refine lv_icmp_eq (x := (thQ n (xs (i + 1)) (xs (i + 2)))) (y := (thQ n (xs (i + 1)) (xs (i + 2)))) (tgt := 575) hx hb dL_law_570 (by decide) (fun c_570 => ?_) (fun c_570 => absurd rfl c_570)
  refine lv_iload hx hb dL_law_575 (lv_at hl 1 rfl) ?_
  refine lv_if_ne (x := (thQ n (xs (i + 1)) (xs (i + 2)))) (tgt := 592) hx hb dL_law_577 (by decide) (fun c_577 => ?_) (fun c_577 => ?_)
  · obtain rfl : F = F8 := (h8c c_577).symm
    obtain rfl : F = F9 := (h9c c_577).symm
    have hP : va_P D vwCl (wAll qx F n Rx qo o8 qm F n Rm (thQ n (xs (i + 1)) (xs (i + 2))) cI cZ cL) H := hP
    have hD : va_D (aL s) (wAll qx F n Rx qo o8 qm F n Rm (thQ n (xs (i + 1)) (xs (i + 2))) cI cZ cL) := hD
    refine lv_goto (tgt := 1303) hx hb dL_law_592 (by decide) ?_
    refine lv_iinc (v := (nI (i + 4))) (lv' := [(4, .int (nI (i + 4))), (6, .int r9), (5, .int (thQ n (xs (i + 1)) (xs (i + 2)))), (0, .ref b), (1, .ref (qx 9)), (2, .ref (qm 9)), (3, .ref qo)]) hx hb dL_law_1303 hl (k := 2) rfl (nI_add i 4) (by decide) rfl (fun ls hl => ?_)
    refine lv_goto (tgt := 23) hx hb dL_law_1306 (by decide) ?_
    refine W.widen (k := 21 + 2 * (i + 4)) (n := 462 + 8 * (i + 4)) (by omega) (by omega) ?_
    exact ih F n _ _ _ _ _ _ _ hw hs hP hD hS (lv_sub hl [0, 3, 4, 5, 6] rfl)
  · obtain ⟨e8, e8f⟩ := h8b c_577
    obtain ⟨e9, e9f⟩ := h9b c_577
    obtain rfl : F8 = (fQ F (gi (xs (i + 1))) (xs (i + 2))) := e8f
    obtain rfl : F9 = (fQ F (gi (xs (i + 1))) (xs (i + 2))) := e9f
    subst e9
    have hP : va_P D vwCl (wAll qx (fQ F (gi (xs (i + 1))) (xs (i + 2))) n Rx qo o8 qm (fQ F (gi (xs (i + 1))) (xs (i + 2))) n Rm (thQ n (xs (i + 1)) (xs (i + 2))) cI cZ cL) H := hP
    have hD : va_D (aL s) (wAll qx (fQ F (gi (xs (i + 1))) (xs (i + 2))) n Rx qo o8 qm (fQ F (gi (xs (i + 1))) (xs (i + 2))) n Rm (thQ n (xs (i + 1)) (xs (i + 2))) cI cZ cL) := hD
    refine lv_aload_n hx hb dL_law_580 rfl (lv_at hl 6 rfl) ?_
    refine lv_iconst (v := 0) hx hb dL_law_581 (by decide) ?_
    refine va_lald hx hb hK hP 10 2 rfl rfl (i := 0) in_01 dL_law_582 ?_
    refine lv_iload hx hb dL_law_583 (lv_at hl 0 rfl) ?_
    refine lv_i2l hx hb dL_law_585 rfl ?_
    refine W.lcmp hx hb dL_law_586 ?_
    refine W.eq (g2 := F0 m9 587 ls (.int 0 :: [])) (congrArg (fun z => F0 m9 587 ls (Value.int z :: [])) (lg_eq e8)) ?_
    refine lv_if_eq (x := 0) (tgt := 592) hx hb dL_law_587 (by decide) (fun _ => ?_) (fun k => absurd (by decide) k)
    refine lv_goto (tgt := 1303) hx hb dL_law_592 (by decide) ?_
    refine lv_iinc (v := (nI (i + 4))) (lv' := [(4, .int (nI (i + 4))), (6, .int (F 6 (gi (xs (i + 1))))), (5, .int (thQ n (xs (i + 1)) (xs (i + 2)))), (0, .ref b), (1, .ref (qx 9)), (2, .ref (qm 9)), (3, .ref qo)]) hx hb dL_law_1303 hl (k := 2) rfl (nI_add i 4) (by decide) rfl (fun ls hl => ?_)
    refine lv_goto (tgt := 23) hx hb dL_law_1306 (by decide) ?_
    refine W.widen (k := 21 + 2 * (i + 4)) (n := 462 + 8 * (i + 4)) (by omega) (by omega) ?_
    exact ih (fQ F (gi (xs (i + 1))) (xs (i + 2))) n _ _ _ _ _ _ _ (wf_q hw) (sy_q hs) hP hD hS (lv_sub hl [0, 3, 4, 5, 6] rfl)
set_option maxHeartbeats 4000000 in
set_option maxRecDepth 100000 in
theorem law_c6 {p9 : Program} {l : Launch} {e9 : Env} {s : State} {m9 : MethodId} {below : List Frame} {meth : Method} {c9 : Code} {b L : Nat} {xs : Nat → Int32} (hL : L ≤ 2048) (hfl : l.stackTraces = false) (C0 : lw_At p9 s m9 meth c9 b L xs) (ht : tB s) (hn9 : nC s) {D : va_G} {qx qm : Nat → Nat} {qo : Nat} {cI cZ cL : ClassId} (hK : va_K D vwCl (tIZL cI cZ cL) s) {i : Nat} (hi : i + 4 ≤ L) {F : Nat → Nat → Int32} {n : Nat} (hw : WF F n) (hs : SY F) {Rx Rm : Nat → Int32} {th : Int32} {o : Nat → Int64} {H : Heap} {locs : List Loc} {ls : Array Slot} (hP : va_P D vwCl (wAll qx F n Rx qo o qm F n Rm th cI cZ cL) H) (hD : va_D (aL s) (wAll qx F n Rx qo o qm F n Rm th cI cZ cL)) (hS : va_S (aL s) s.heap H locs) (hl : lv_has ls 7 [(4, .int (nI i)), (0, .ref b), (1, .ref (qx 9)), (2, .ref (qm 9)), (3, .ref qo)]) (ih : law_next p9 l e9 s m9 below meth c9 b D qx qm qo cI cZ cL (i + 4)) : W p9 l e9 room_1 s m9 #[Value.ref b] below meth c9 H locs (21 + 2 * i) (462 + 8 * i) (lw_Z below #[Value.ref b] s) (F0 m9 595 ls []) := by
  obtain ⟨hx, hb, hr, hml, hown0, hts0, hX, hbl, hlocks, hgv⟩ := id C0
  have hown : s.vm.findClass RL = some m9.cls := hown0
  have hts : ∀ w ∈ wsL_law, w.before #[Value.ref b] s = true := fun w h => hts0 w (wsL_law_in w h)
  have hbA : ¬ aL s b := Nat.not_le.mpr hbl
  refine lv_aload_n hx hb dL_law_595 rfl (lv_at hl 2 rfl) ?_
  refine lv_aload_n hx hb dL_law_596 rfl (lv_at hl 1 rfl) ?_
  refine lv_iload hx hb dL_law_597 (lv_at hl 0 rfl) ?_
  refine lv_iconst (v := 1) hx hb dL_law_599 (by decide) ?_
  refine lv_iadd hx hb (x := (nI i)) (y := 1) dL_law_600 ?_
  refine W.eq (g2 := F0 m9 601 ls (.int (nI (i + 1)) :: [.ref b, .ref (qx 9)])) (congrArg (fun z => F0 m9 601 ls (Value.int z :: [.ref b, .ref (qx 9)])) (nI_add i 1)) ?_
  refine xsld hx hb hX hbl hbA hS (k := (i + 1)) (by omega) (by omega) dL_law_601 ?_
  refine lv_aload_n hx hb dL_law_602 rfl (lv_at hl 1 rfl) ?_
  refine lv_iload hx hb dL_law_603 (lv_at hl 0 rfl) ?_
  refine lv_iconst (v := 2) hx hb dL_law_605 (by decide) ?_
  refine lv_iadd hx hb (x := (nI i)) (y := 2) dL_law_606 ?_
  refine W.eq (g2 := F0 m9 607 ls (.int (nI (i + 2)) :: [.ref b, .int (xs (i + 1)), .ref (qx 9)])) (congrArg (fun z => F0 m9 607 ls (Value.int z :: [.ref b, .int (xs (i + 1)), .ref (qx 9)])) (nI_add i 2)) ?_
  refine xsld hx hb hX hbl hbA hS (k := (i + 2)) (by omega) (by omega) dL_law_607 ?_
  refine lv_aload_n hx hb dL_law_608 rfl (lv_at hl 4 rfl) ?_
  refine l_S (As := [.ref (qx 9), .int (xs (i + 1)), .int (xs (i + 2)), .ref qo]) (rest := []) (wr := wM qm F (nI n) Rm th cI cZ) ⟨hx, hb, hml, hown, hts⟩ (c_L_put l hfl D qx F n Rx qo o cI cZ cL _ (xs (i + 1)) (xs (i + 2)) hw) (vx_cwSW 4 hts gL_law_L_put rfl rfl rfl (by decide +kernel) ⟨Nat.le_of_ble_eq_true rfl, Nat.le_of_ble_eq_true rfl⟩) hn9 ht hK hP hD [0, 1, 2, 3, 4, 5, 6, 7, 8, 9, 10] [11, 12, 13, 14, 15, 16, 17, 18, 19, 20] rfl rfl (by decide) rfl (by decide) (by decide) hS rfl hl.1 rfl (Nat.le_of_ble_eq_true rfl) dL_law_609 ⟨by show _ ≤ 647008; omega, by show _ ≤ 7155079; omega⟩ (fun r8 u8 H locs h8 hP hD hS => ?_)
  obtain ⟨F8, o8⟩ := u8
  obtain ⟨rfl, h8b, h8c⟩ := h8
  have hP : va_P D vwCl (wAll qx F8 n Rx qo o8 qm F n Rm th cI cZ cL) H := hP.sub [10, 11, 12, 13, 14, 15, 16, 17, 18, 19, 20, 0, 1, 2, 3, 4, 5, 6, 7, 8, 9] rfl
  have hD : va_D (aL s) (wAll qx F8 n Rx qo o8 qm F n Rm th cI cZ cL) := hD.sub [10, 11, 12, 13, 14, 15, 16, 17, 18, 19, 20, 0, 1, 2, 3, 4, 5, 6, 7, 8, 9] (by decide) rfl
  refine lv_istore (lv' := [(5, .int (thP n (xs (i + 1)) (xs (i + 2)))), (4, .int (nI i)), (0, .ref b), (1, .ref (qx 9)), (2, .ref (qm 9)), (3, .ref qo)]) hx hb dL_law_612 hl (by decide) rfl (fun ls hl => ?_)
  refine lv_aload_n hx hb dL_law_614 rfl (lv_at hl 4 rfl) ?_
  refine lv_aload_n hx hb dL_law_615 rfl (lv_at hl 2 rfl) ?_
  refine lv_iload hx hb dL_law_616 (lv_at hl 1 rfl) ?_
  refine lv_iconst (v := 1) hx hb dL_law_618 (by decide) ?_
  refine lv_iadd hx hb (x := (nI i)) (y := 1) dL_law_619 ?_
  refine W.eq (g2 := F0 m9 620 ls (.int (nI (i + 1)) :: [.ref b, .ref (qm 9)])) (congrArg (fun z => F0 m9 620 ls (Value.int z :: [.ref b, .ref (qm 9)])) (nI_add i 1)) ?_
  refine xsld hx hb hX hbl hbA hS (k := (i + 1)) (by omega) (by omega) dL_law_620 ?_
  refine lv_aload_n hx hb dL_law_621 rfl (lv_at hl 2 rfl) ?_
  refine lv_iload hx hb dL_law_622 (lv_at hl 1 rfl) ?_
  refine lv_iconst (v := 2) hx hb dL_law_624 (by decide) ?_
  refine lv_iadd hx hb (x := (nI i)) (y := 2) dL_law_625 ?_
  refine W.eq (g2 := F0 m9 626 ls (.int (nI (i + 2)) :: [.ref b, .int (xs (i + 1)), .ref (qm 9)])) (congrArg (fun z => F0 m9 626 ls (Value.int z :: [.ref b, .int (xs (i + 1)), .ref (qm 9)])) (nI_add i 2)) ?_
  refine xsld hx hb hX hbl hbA hS (k := (i + 2)) (by omega) (by omega) dL_law_626 ?_
  refine wr_V (As := [.int (xs (i + 1)), .int (xs (i + 2))]) (rest := []) (wr := (wXo qx F8 (nI n) Rx qo o8 cI cZ cL)) ⟨hx, hb, hml, hown, hts⟩ (c_X1_put l D qm F n Rm th cI cZ _ (xs (i + 1)) (xs (i + 2)) hw) (cwV 2 hts gL_law_X1_put rfl rfl rfl (by decide +kernel) ⟨Nat.le_of_ble_eq_true rfl, Nat.le_of_ble_eq_true rfl⟩) (hK.sub [0, 1] rfl) hP hD (fun q h => h) [11, 12, 13, 14, 15, 16, 17, 18, 19, 20] [0, 1, 2, 3, 4, 5, 6, 7, 8, 9, 10] rfl rfl (by decide) rfl (by decide) (by decide) (va_recv hK hP (ci := 1) (q0 := 11) rfl rfl) hS rfl hl.1 rfl (Nat.le_of_ble_eq_true rfl) dL_law_627 ⟨by show _ ≤ 647008; omega, by show _ ≤ 7155079; omega⟩ (fun r9 u9 H locs h9 hP hD hS => ?_)
  obtain ⟨t9, F9⟩ := u9
  obtain ⟨h9a, h9b, h9c⟩ := h9
  obtain rfl : t9 = thP n (xs (i + 1)) (xs (i + 2)) := h9a
  have hP : va_P D vwCl (wAll qx F8 n Rx qo o8 qm F9 n Rm (thP n (xs (i + 1)) (xs (i + 2))) cI cZ cL) H := hP
  have hD : va_D (aL s) (wAll qx F8 n Rx qo o8 qm F9 n Rm (thP n (xs (i + 1)) (xs (i + 2))) cI cZ cL) := hD
  refine lv_istore (lv' := [(6, .int r9), (5, .int (thP n (xs (i + 1)) (xs (i + 2)))), (4, .int (nI i)), (0, .ref b), (1, .ref (qx 9)), (2, .ref (qm 9)), (3, .ref qo)]) hx hb dL_law_630 hl (by decide) rfl (fun ls hl => ?_)
  refine lv_aload_n hx hb dL_law_632 rfl (lv_at hl 5 rfl) ?_
  refine ro_V (As := []) (rest := []) ⟨hx, hb, hml, hown, hts⟩ (c_X1_thrown l D qm F9 n Rm (thP n (xs (i + 1)) (xs (i + 2))) cI cZ) (cwV 0 hts gL_law_X1_thrown rfl rfl rfl (by decide +kernel) ⟨Nat.le_of_ble_eq_true rfl, Nat.le_of_ble_eq_true rfl⟩) (hK.sub [0, 1] rfl) hP (hP.sub [11, 12, 13, 14, 15, 16, 17, 18, 19, 20] rfl) (va_recv hK hP (ci := 1) (q0 := 11) rfl rfl) hS rfl hl.1 rfl (Nat.le_of_ble_eq_true rfl) dL_law_633 ⟨by show _ ≤ 647008; omega, by show _ ≤ 7155079; omega⟩ (fun r H locs hr9 hP hS => ?_)
  subst hr9
  refine lv_iload hx hb dL_law_636 (lv_at hl 1 rfl) ?_
  refine lv_icmp_eq (x := (thP n (xs (i + 1)) (xs (i + 2)))) (y := (thP n (xs (i + 1)) (xs (i + 2)))) (tgt := 643) hx hb dL_law_638 (by decide) (fun c_638 => ?_) (fun c_638 => absurd rfl c_638)
  refine lv_iload hx hb dL_law_643 (lv_at hl 1 rfl) ?_
  refine lv_if_ne (x := (thP n (xs (i + 1)) (xs (i + 2)))) (tgt := 660) hx hb dL_law_645 (by decide) (fun c_645 => ?_) (fun c_645 => ?_)
  · obtain rfl : F = F8 := (h8c c_645).symm
    obtain rfl : F = F9 := (h9c c_645).symm
    have hP : va_P D vwCl (wAll qx F n Rx qo o8 qm F n Rm (thP n (xs (i + 1)) (xs (i + 2))) cI cZ cL) H := hP
    have hD : va_D (aL s) (wAll qx F n Rx qo o8 qm F n Rm (thP n (xs (i + 1)) (xs (i + 2))) cI cZ cL) := hD
    refine lv_goto (tgt := 1303) hx hb dL_law_660 (by decide) ?_
    refine lv_iinc (v := (nI (i + 4))) (lv' := [(4, .int (nI (i + 4))), (6, .int r9), (5, .int (thP n (xs (i + 1)) (xs (i + 2)))), (0, .ref b), (1, .ref (qx 9)), (2, .ref (qm 9)), (3, .ref qo)]) hx hb dL_law_1303 hl (k := 2) rfl (nI_add i 4) (by decide) rfl (fun ls hl => ?_)
    refine lv_goto (tgt := 23) hx hb dL_law_1306 (by decide) ?_
    refine W.widen (k := 21 + 2 * (i + 4)) (n := 462 + 8 * (i + 4)) (by omega) (by omega) ?_
    exact ih F n _ _ _ _ _ _ _ hw hs hP hD hS (lv_sub hl [0, 3, 4, 5, 6] rfl)
  · obtain ⟨e8, e8f⟩ := h8b c_645
    obtain ⟨e9, e9f⟩ := h9b c_645
    obtain rfl : F8 = (fP F (gi (xs (i + 1))) (xs (i + 2))) := e8f
    obtain rfl : F9 = (fP F (gi (xs (i + 1))) (xs (i + 2))) := e9f
    subst e9
    have hP : va_P D vwCl (wAll qx (fP F (gi (xs (i + 1))) (xs (i + 2))) n Rx qo o8 qm (fP F (gi (xs (i + 1))) (xs (i + 2))) n Rm (thP n (xs (i + 1)) (xs (i + 2))) cI cZ cL) H := hP
    have hD : va_D (aL s) (wAll qx (fP F (gi (xs (i + 1))) (xs (i + 2))) n Rx qo o8 qm (fP F (gi (xs (i + 1))) (xs (i + 2))) n Rm (thP n (xs (i + 1)) (xs (i + 2))) cI cZ cL) := hD
    refine lv_aload_n hx hb dL_law_648 rfl (lv_at hl 6 rfl) ?_
    refine lv_iconst (v := 0) hx hb dL_law_649 (by decide) ?_
    refine va_lald hx hb hK hP 10 2 rfl rfl (i := 0) in_01 dL_law_650 ?_
    refine lv_iload hx hb dL_law_651 (lv_at hl 0 rfl) ?_
    refine lv_i2l hx hb dL_law_653 rfl ?_
    refine W.lcmp hx hb dL_law_654 ?_
    refine W.eq (g2 := F0 m9 655 ls (.int 0 :: [])) (congrArg (fun z => F0 m9 655 ls (Value.int z :: [])) (lg_eq e8)) ?_
    refine lv_if_eq (x := 0) (tgt := 660) hx hb dL_law_655 (by decide) (fun _ => ?_) (fun k => absurd (by decide) k)
    refine lv_goto (tgt := 1303) hx hb dL_law_660 (by decide) ?_
    refine lv_iinc (v := (nI (i + 4))) (lv' := [(4, .int (nI (i + 4))), (6, .int (F 7 (gi (xs (i + 1))))), (5, .int (thP n (xs (i + 1)) (xs (i + 2)))), (0, .ref b), (1, .ref (qx 9)), (2, .ref (qm 9)), (3, .ref qo)]) hx hb dL_law_1303 hl (k := 2) rfl (nI_add i 4) (by decide) rfl (fun ls hl => ?_)
    refine lv_goto (tgt := 23) hx hb dL_law_1306 (by decide) ?_
    refine W.widen (k := 21 + 2 * (i + 4)) (n := 462 + 8 * (i + 4)) (by omega) (by omega) ?_
    exact ih (fP F (gi (xs (i + 1))) (xs (i + 2))) n _ _ _ _ _ _ _ (wf_p hw (thP_of c_645).2) (sy_p hs) hP hD hS (lv_sub hl [0, 3, 4, 5, 6] rfl)
set_option maxHeartbeats 4000000 in
set_option maxRecDepth 100000 in
theorem law_c7 {p9 : Program} {l : Launch} {e9 : Env} {s : State} {m9 : MethodId} {below : List Frame} {meth : Method} {c9 : Code} {b L : Nat} {xs : Nat → Int32} (hL : L ≤ 2048) (hfl : l.stackTraces = false) (C0 : lw_At p9 s m9 meth c9 b L xs) (ht : tB s) (hn9 : nC s) {D : va_G} {qx qm : Nat → Nat} {qo : Nat} {cI cZ cL : ClassId} (hK : va_K D vwCl (tIZL cI cZ cL) s) {i : Nat} (hi : i + 4 ≤ L) {F : Nat → Nat → Int32} {n : Nat} (hw : WF F n) (hs : SY F) {Rx Rm : Nat → Int32} {th : Int32} {o : Nat → Int64} {H : Heap} {locs : List Loc} {ls : Array Slot} (hP : va_P D vwCl (wAll qx F n Rx qo o qm F n Rm th cI cZ cL) H) (hD : va_D (aL s) (wAll qx F n Rx qo o qm F n Rm th cI cZ cL)) (hS : va_S (aL s) s.heap H locs) (hl : lv_has ls 7 [(4, .int (nI i)), (0, .ref b), (1, .ref (qx 9)), (2, .ref (qm 9)), (3, .ref qo)]) (ih : law_next p9 l e9 s m9 below meth c9 b D qx qm qo cI cZ cL (i + 4)) : W p9 l e9 room_1 s m9 #[Value.ref b] below meth c9 H locs (21 + 2 * i) (462 + 8 * i) (lw_Z below #[Value.ref b] s) (F0 m9 663 ls []) := by
  obtain ⟨hx, hb, hr, hml, hown0, hts0, hX, hbl, hlocks, hgv⟩ := id C0
  have hown : s.vm.findClass RL = some m9.cls := hown0
  have hts : ∀ w ∈ wsL_law, w.before #[Value.ref b] s = true := fun w h => hts0 w (wsL_law_in w h)
  have hbA : ¬ aL s b := Nat.not_le.mpr hbl
  refine lv_aload_n hx hb dL_law_663 rfl (lv_at hl 2 rfl) ?_
  refine ro_V (As := []) (rest := []) ⟨hx, hb, hml, hown, hts⟩ (c_X0_goods l D qx F n Rx cI cZ) (cwV 0 hts gL_law_X0_goods rfl rfl rfl (by decide +kernel) ⟨Nat.le_of_ble_eq_true rfl, Nat.le_of_ble_eq_true rfl⟩) (hK.sub [0, 1] rfl) hP (hP.sub [0, 1, 2, 3, 4, 5, 6, 7, 8, 9] rfl) (va_recv hK hP (ci := 0) (q0 := 0) rfl rfl) hS rfl hl.1 rfl (Nat.le_of_ble_eq_true rfl) dL_law_664 ⟨by show _ ≤ 647008; omega, by show _ ≤ 7155079; omega⟩ (fun r H locs hr9 hP hS => ?_)
  subst hr9
  refine lv_aload_n hx hb dL_law_667 rfl (lv_at hl 3 rfl) ?_
  refine wr_V (As := []) (rest := [.int (nI n)]) (wr := (wXo qx F (nI n) Rx qo o cI cZ cL)) ⟨hx, hb, hml, hown, hts⟩ (c_X1_goods l D qm F n Rm th cI cZ _) (cwV 0 hts gL_law_X1_goods rfl rfl rfl (by decide +kernel) ⟨Nat.le_of_ble_eq_true rfl, Nat.le_of_ble_eq_true rfl⟩) (hK.sub [0, 1] rfl) hP hD (fun q h => h) [11, 12, 13, 14, 15, 16, 17, 18, 19, 20] [0, 1, 2, 3, 4, 5, 6, 7, 8, 9, 10] rfl rfl (by decide) rfl (by decide) (by decide) (va_recv hK hP (ci := 1) (q0 := 11) rfl rfl) hS rfl hl.1 rfl (Nat.le_of_ble_eq_true rfl) dL_law_668 ⟨by show _ ≤ 647008; omega, by show _ ≤ 7155079; omega⟩ (fun r9 u9 H locs h9 hP hD hS => ?_)
  obtain ⟨rfl, rfl⟩ := h9
  have hP : va_P D vwCl (wAll qx F n Rx qo o qm F n Rm 0 cI cZ cL) H := hP
  have hD : va_D (aL s) (wAll qx F n Rx qo o qm F n Rm 0 cI cZ cL) := hD
  refine lv_icmp_eq (x := (nI n)) (y := (nI n)) (tgt := 1303) hx hb dL_law_671 (by decide) (fun c_671 => ?_) (fun c_671 => absurd rfl c_671)
  refine lv_iinc (v := (nI (i + 4))) (lv' := [(4, .int (nI (i + 4))), (0, .ref b), (1, .ref (qx 9)), (2, .ref (qm 9)), (3, .ref qo)]) hx hb dL_law_1303 hl (k := 0) rfl (nI_add i 4) (by decide) rfl (fun ls hl => ?_)
  refine lv_goto (tgt := 23) hx hb dL_law_1306 (by decide) ?_
  refine W.widen (k := 21 + 2 * (i + 4)) (n := 462 + 8 * (i + 4)) (by omega) (by omega) ?_
  exact ih F n _ _ _ _ _ _ _ hw hs hP hD hS (lv_sub hl [0, 1, 2, 3, 4] rfl)

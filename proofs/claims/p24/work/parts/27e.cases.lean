/-! the law's other calls -/
set_option maxHeartbeats 8000000 in
set_option maxRecDepth 100000 in
theorem law_b598 {p9 : Program} {l : Launch} {e9 : Env} {s : State} {m9 : MethodId} {below : List Frame} {meth : Method} {c9 : Code} {b L : Nat} {xs : Nat → Int32} {D : va_G} {q : Nat → Nat} {qt qo qg qm : Nat} {cI cZ : ClassId} (hL : L ≤ 260) (hfl : l.stackTraces = false) (C0 : lw_At p9 s m9 meth c9 b L xs) (htA : tBA (aL s) s) (hn9 : nC s) (hK : va_K D vwCl (tIZ cI cZ) s) {i x y : Nat} (hi : i < 70) (hx9 : x < 2 ^ 31) (hy : y < 67108864) (k745 : law_tail p9 l e9 s m9 below meth c9 b D q qt qo qg qm cI cZ i x y) {o1 o2 kk z : Nat} (h1 : 1 ≤ o1) (h2 : o1 ≤ 9) (h3 : 1 ≤ o2) (h4 : o2 ≤ 9) {F : Nat → Nat → Int32} {n : Nat} {Rv T M G C : Nat → Int32} {H : Heap} {locs : List Loc} {ls : Array Slot} (hkk : kk < n) (hw : WF F n) (hs : SY F) (hv : IV F n T M G) (hm : C 0 = nI n) (hP : va_P D vwCl (wX q F (nI n) Rv cI cZ ++ [(qt, .inl (cI, 64, .inl (T))), (qo, .inl (cI, 30, .inl (M))), (qg, .inl (cI, 48, .inl (G))), (qm, .inl (cI, 1, .inl (C)))]) H) (hD : va_D (aL s) (wX q F (nI n) Rv cI cZ ++ [(qt, .inl (cI, 64, .inl (T))), (qo, .inl (cI, 30, .inl (M))), (qg, .inl (cI, 48, .inl (G))), (qm, .inl (cI, 1, .inl (C)))])) (hS : va_S (aL s) s.heap H locs) (hl : lv_has ls 17 [(7, .int (nI i)), (6, .int 1), (8, .int (nI x)), (9, .int (nI y)), (10, .int (nI z)), (11, .int (nI o1)), (12, .int (nI o2)), (13, .int (nI kk)), (0, .ref b), (1, .ref (q 9)), (2, .ref qt), (3, .ref qo), (4, .ref qg), (5, .ref qm)]) : W p9 l e9 room_1 s m9 #[Value.ref b] below meth c9 H locs (700 + 320 * i) (4000 + 1900 * i) (lw_Z below #[Value.ref b] s) (F0 m9 598 ls []) := by
  obtain ⟨hx, hb, hr, hml, hown0, hts0, hX, hbl, hlocks, hgv⟩ := id C0
  have hown : s.vm.findClass RL = some m9.cls := hown0
  have hts : ∀ w ∈ wsL_law, w.before #[Value.ref b] s = true := fun w h => hts0 w (wsL_law_in w h)
  have hA : ∀ q : Nat, s.heap.size ≤ q → aL s q := fun _ h => h
  have hbA : ¬ aL s b := Nat.not_le.mpr hbl
  have hn10 := hv.n
  have hn16 := hw.n
  have hgd : mIn (nI kk) 0 (nI n - 1) = true := (gd_iff hn16).mpr ⟨kk, hkk, rfl⟩
  refine lv_aload hx hb dL_law_598 (lv_at hl 12 rfl) ?_
  refine lv_iconst (v := 3) hx hb dL_law_600 (by decide) ?_
  refine lv_iload hx hb dL_law_601 (lv_at hl 7 rfl) ?_
  refine lv_imul hx hb (x := 3) (y := (nI kk)) dL_law_603 ?_
  refine W.eq (g2 := F0 m9 604 ls (.int (nI (3 * kk)) :: [.ref qg])) (congrArg (fun z => F0 m9 604 ls (Value.int z :: [.ref qg])) (pk_mul 3 kk)) ?_
  refine lv_iconst (v := 2) hx hb dL_law_604 (by decide) ?_
  refine lv_iadd hx hb (x := (nI (3 * kk))) (y := 2) dL_law_605 ?_
  refine W.eq (g2 := F0 m9 606 ls (.int (nI ((3 * kk) + 2)) :: [.ref qg])) (congrArg (fun z => F0 m9 606 ls (Value.int z :: [.ref qg])) (nI_add (3 * kk) 2)) ?_
  refine xiald (g := ((3 * kk) + 2)) hx hb hK hP 12 0 rfl rfl (by omega) (by decide) dL_law_606 ?_
  refine W.eq (g2 := F0 m9 607 ls (.int (F 6 kk) :: [])) (congrArg (fun z => F0 m9 607 ls (Value.int z :: [])) (hv.g2 hkk)) ?_
  refine lv_istore (lv' := [(14, .int (F 6 kk)), (7, .int (nI i)), (6, .int 1), (8, .int (nI x)), (9, .int (nI y)), (10, .int (nI z)), (11, .int (nI o1)), (12, .int (nI o2)), (13, .int (nI kk)), (0, .ref b), (1, .ref (q 9)), (2, .ref qt), (3, .ref qo), (4, .ref qg), (5, .ref qm)]) hx hb dL_law_607 hl (by decide) rfl (fun ls hl => ?_)
  refine lv_aload hx hb dL_law_609 (lv_at hl 13 rfl) ?_
  refine lv_iconst (v := 3) hx hb dL_law_611 (by decide) ?_
  refine lv_iload hx hb dL_law_612 (lv_at hl 8 rfl) ?_
  refine lv_imul hx hb (x := 3) (y := (nI kk)) dL_law_614 ?_
  refine W.eq (g2 := F0 m9 615 ls (.int (nI (3 * kk)) :: [.ref qg])) (congrArg (fun z => F0 m9 615 ls (Value.int z :: [.ref qg])) (pk_mul 3 kk)) ?_
  refine lv_iconst (v := 2) hx hb dL_law_615 (by decide) ?_
  refine lv_iadd hx hb (x := (nI (3 * kk))) (y := 2) dL_law_616 ?_
  refine W.eq (g2 := F0 m9 617 ls (.int (nI ((3 * kk) + 2)) :: [.ref qg])) (congrArg (fun z => F0 m9 617 ls (Value.int z :: [.ref qg])) (nI_add (3 * kk) 2)) ?_
  have J638 : ∀ (dd : Nat) (H : Heap) (locs : List Loc) (ls : Array Slot), (0 < dd ∧ dd ≤ 10000) → va_P D vwCl (wX q F (nI n) Rv cI cZ ++ [(qt, .inl (cI, 64, .inl (T))), (qo, .inl (cI, 30, .inl (M))), (qg, .inl (cI, 48, .inl (G))), (qm, .inl (cI, 1, .inl (C)))]) H → va_D (aL s) (wX q F (nI n) Rv cI cZ ++ [(qt, .inl (cI, 64, .inl (T))), (qo, .inl (cI, 30, .inl (M))), (qg, .inl (cI, 48, .inl (G))), (qm, .inl (cI, 1, .inl (C)))]) → va_S (aL s) s.heap H locs → lv_has ls 17 [(14, .int (F 6 kk)), (7, .int (nI i)), (6, .int 1), (8, .int (nI x)), (9, .int (nI y)), (10, .int (nI z)), (11, .int (nI o1)), (12, .int (nI o2)), (13, .int (nI kk)), (0, .ref b), (1, .ref (q 9)), (2, .ref qt), (3, .ref qo), (4, .ref qg), (5, .ref qm)] → W p9 l e9 room_1 s m9 #[Value.ref b] below meth c9 H locs (700 + 320 * i) (4000 + 1900 * i) (lw_Z below #[Value.ref b] s) (F0 m9 638 ls [.int (nI dd), .int (nI (y / 16)), .int 1, .int (nI (3 * kk + 2)), .ref qg]) := by
    intro dd H locs ls hdd hP hD hS hl
    refine lv_irem hx hb (x := (nI (y / 16))) (y := (nI dd)) dL_law_638 (nI_ne0 (by omega) (by omega)) ?_
    refine W.eq (g2 := F0 m9 639 ls (.int (nI ((y / 16) % dd)) :: [.int 1, .int (nI (3 * kk + 2)), .ref qg])) (congrArg (fun z => F0 m9 639 ls (Value.int z :: [.int 1, .int (nI (3 * kk + 2)), .ref qg])) (pk_rem (a := (y / 16)) (d := dd) (by omega) (by omega) (by omega))) ?_
    obtain ⟨qn, hq1, eqn⟩ : ∃ j, (1 ≤ j ∧ j ≤ 10000) ∧ 1 + y / 16 % dd = j := ⟨_, ⟨by omega, by have := Nat.mod_lt (y / 16) hdd.1; omega⟩, rfl⟩
    refine lv_iadd hx hb (x := 1) (y := (nI ((y / 16) % dd))) dL_law_639 ?_
    refine W.eq (g2 := F0 m9 640 ls (.int (nI (1 + ((y / 16) % dd))) :: [.int (nI (3 * kk + 2)), .ref qg])) (congrArg (fun z => F0 m9 640 ls (Value.int z :: [.int (nI (3 * kk + 2)), .ref qg])) (nI_add 1 ((y / 16) % dd))) ?_
    refine W.eq (g2 := F0 m9 640 ls (.int (nI qn) :: [.int (nI (3 * kk + 2)), .ref qg])) (congrArg (fun z => F0 m9 640 ls (Value.int z :: [.int (nI (3 * kk + 2)), .ref qg])) (congrArg nI eqn)) ?_
    refine xiast (g := (3 * kk + 2)) (x := (nI qn)) hx hb hK hP hD hS 12 0 rfl rfl (by omega) (by decide) dL_law_640 (fun H locs hP hD hS => ?_)
    have hP : va_P D vwCl (wX q F (nI n) Rv cI cZ ++ [(qt, .inl (cI, 64, .inl (T))), (qo, .inl (cI, 30, .inl (M))), (qg, .inl (cI, 48, .inl (upd G (3 * kk + 2) (nI qn)))), (qm, .inl (cI, 1, .inl (C)))]) H := hP
    have hD : va_D (aL s) (wX q F (nI n) Rv cI cZ ++ [(qt, .inl (cI, 64, .inl (T))), (qo, .inl (cI, 30, .inl (M))), (qg, .inl (cI, 48, .inl (upd G (3 * kk + 2) (nI qn)))), (qm, .inl (cI, 1, .inl (C)))]) := hD
    refine lv_aload_n hx hb dL_law_641 rfl (lv_at hl 10 rfl) ?_
    refine lv_iconst (v := 0) hx hb dL_law_642 (by decide) ?_
    refine lv_iload hx hb dL_law_643 (lv_at hl 8 rfl) ?_
    refine lv_aload hx hb dL_law_645 (lv_at hl 13 rfl) ?_
    refine lv_iconst (v := 3) hx hb dL_law_647 (by decide) ?_
    refine lv_iload hx hb dL_law_648 (lv_at hl 8 rfl) ?_
    refine lv_imul hx hb (x := 3) (y := (nI kk)) dL_law_650 ?_
    refine W.eq (g2 := F0 m9 651 ls (.int (nI (3 * kk)) :: [.ref qg, .int (nI kk), .int 0, .ref (q 9)])) (congrArg (fun z => F0 m9 651 ls (Value.int z :: [.ref qg, .int (nI kk), .int 0, .ref (q 9)])) (pk_mul 3 kk)) ?_
    refine lv_iconst (v := 2) hx hb dL_law_651 (by decide) ?_
    refine lv_iadd hx hb (x := (nI (3 * kk))) (y := 2) dL_law_652 ?_
    refine W.eq (g2 := F0 m9 653 ls (.int (nI ((3 * kk) + 2)) :: [.ref qg, .int (nI kk), .int 0, .ref (q 9)])) (congrArg (fun z => F0 m9 653 ls (Value.int z :: [.ref qg, .int (nI kk), .int 0, .ref (q 9)])) (nI_add (3 * kk) 2)) ?_
    refine xiald (g := ((3 * kk) + 2)) hx hb hK hP 12 0 rfl rfl (by omega) (by decide) dL_law_653 ?_
    refine W.eq (g2 := F0 m9 654 ls (.int (nI qn) :: [.int (nI kk), .int 0, .ref (q 9)])) (congrArg (fun z => F0 m9 654 ls (Value.int z :: [.int (nI kk), .int 0, .ref (q 9)])) (pk_us)) ?_
    refine la_SW (As := [.ref (q 9), .int 0, .int (nI kk), .int (nI qn)]) (rest := []) (wr := [(qt, .inl (cI, 64, .inl (T))), (qo, .inl (cI, 30, .inl (M))), (qg, .inl (cI, 48, .inl (upd G (3 * kk + 2) (nI qn)))), (qm, .inl (cI, 1, .inl (C)))]) ⟨hx, hb, hml, hown, hts⟩ (c_L_of_0 l hfl D q F n Rv cI cZ _ (nI kk) (nI qn) hw) (vx_cwSW 4 hts gL_law_L_of rfl rfl rfl (by decide +kernel) ⟨Nat.le_of_ble_eq_true rfl, Nat.le_of_ble_eq_true rfl⟩) hn9 htA hK hP hD hA [0, 1, 2, 3, 4, 5, 6, 7, 8, 9] [10, 11, 12, 13] rfl rfl (by decide) rfl (by decide) (by decide) hS rfl hl.1 rfl (Nat.le_of_ble_eq_true rfl) dL_law_654 ⟨by show _ ≤ 600130; omega, by show _ ≤ 7301080; omega⟩ (fun r9 u9 H locs h_654 hP hD hS => ?_)
    obtain ⟨h9a, h9b⟩ := h_654.1 (thQ_0 hgd (qn_in hq1.1 hq1.2))
    rw [gi_nI (g := kk) (by omega)] at h9a h9b
    subst h9a
    obtain rfl : u9 = (fQ F kk (nI qn)) := h9b
    have hP : va_P D vwCl (wX q (fQ F kk (nI qn)) (nI n) Rv cI cZ ++ [(qt, .inl (cI, 64, .inl (T))), (qo, .inl (cI, 30, .inl (M))), (qg, .inl (cI, 48, .inl (upd G (3 * kk + 2) (nI qn)))), (qm, .inl (cI, 1, .inl (C)))]) H := hP.sub [4, 5, 6, 7, 8, 9, 10, 11, 12, 13, 0, 1, 2, 3] rfl
    have hD : va_D (aL s) (wX q (fQ F kk (nI qn)) (nI n) Rv cI cZ ++ [(qt, .inl (cI, 64, .inl (T))), (qo, .inl (cI, 30, .inl (M))), (qg, .inl (cI, 48, .inl (upd G (3 * kk + 2) (nI qn)))), (qm, .inl (cI, 1, .inl (C)))]) := hD.sub [4, 5, 6, 7, 8, 9, 10, 11, 12, 13, 0, 1, 2, 3] (by decide) rfl
    refine lv_iload hx hb dL_law_657 (lv_at hl 0 rfl) ?_
    refine lv_icmp_ne (x := (F 6 kk)) (y := (F 6 kk)) (tgt := 666) hx hb dL_law_659 (by decide) (fun k => (k rfl : False).elim) (fun c_659 => ?_)
    refine lv_iconst (v := 1) hx hb dL_law_662 (by decide) ?_
    refine lv_goto (tgt := 667) hx hb dL_law_663 (by decide) ?_
    refine lv_istore (lv' := [(6, .int 1), (14, .int (F 6 kk)), (7, .int (nI i)), (8, .int (nI x)), (9, .int (nI y)), (10, .int (nI z)), (11, .int (nI o1)), (12, .int (nI o2)), (13, .int (nI kk)), (0, .ref b), (1, .ref (q 9)), (2, .ref qt), (3, .ref qo), (4, .ref qg), (5, .ref qm)]) hx hb dL_law_667 hl (by decide) rfl (fun ls hl => ?_)
    refine lv_goto (tgt := 745) hx hb dL_law_669 (by decide) ?_
    refine W.widen (k := 710 + 320 * i) (n := 4040 + 1900 * i) (by omega) (by omega) ?_
    exact k745 _ _ _ _ _ _ _ _ _ _ (wf_q hw) (sy_q hs) (iv_q hv) hm hP hD hS (lv_sub hl [2, 0, 3, 4, 9, 10, 11, 12, 13, 14] rfl)
  refine lv_iconst (v := 1) hx hb dL_law_617 (by decide) ?_
  refine lv_iload hx hb dL_law_618 (lv_at hl 4 rfl) ?_
  refine lv_bipush (v := 16) hx hb dL_law_620 (by decide) ?_
  refine lv_idiv hx hb (x := (nI y)) (y := 16) dL_law_622 (by decide) ?_
  refine W.eq (g2 := F0 m9 623 ls (.int (nI (y / 16)) :: [.int 1, .int (nI ((3 * kk) + 2)), .ref qg])) (congrArg (fun z => F0 m9 623 ls (Value.int z :: [.int 1, .int (nI ((3 * kk) + 2)), .ref qg])) (pk_div (a := y) (d := 16) (by omega) (by omega) (by omega))) ?_
  refine lv_iload hx hb dL_law_623 (lv_at hl 4 rfl) ?_
  refine lv_iconst (v := 5) hx hb dL_law_625 (by decide) ?_
  refine lv_irem hx hb (x := (nI y)) (y := 5) dL_law_626 (by decide) ?_
  refine W.eq (g2 := F0 m9 627 ls (.int (nI (y % 5)) :: [.int (nI (y / 16)), .int 1, .int (nI ((3 * kk) + 2)), .ref qg])) (congrArg (fun z => F0 m9 627 ls (Value.int z :: [.int (nI (y / 16)), .int 1, .int (nI ((3 * kk) + 2)), .ref qg])) (pk_rem (a := y) (d := 5) (by omega) (by omega) (by omega))) ?_
  refine lv_if_ne (x := (nI (y % 5))) (tgt := 636) hx hb dL_law_627 (by decide) (fun c_627 => ?_) (fun c_627 => ?_)
  · have c_627 := nq_ne (k := (y % 5)) (n := 0) c_627 (by omega) (by omega)
    refine lv_bipush (v := 20) hx hb dL_law_636 (by decide) ?_
    exact J638 20 _ _ _ ⟨by decide, by decide⟩ hP hD hS (lv_sub hl [0, 1, 2, 3, 4, 5, 6, 7, 8, 9, 10, 11, 12, 13, 14] rfl)
  · have c_627 := nq_eq (k := (y % 5)) (n := 0) c_627 (by omega) (by omega)
    refine lv_sipush (v := 10000) hx hb dL_law_630 (by decide) ?_
    refine lv_goto (tgt := 638) hx hb dL_law_633 (by decide) ?_
    exact J638 10000 _ _ _ ⟨by decide, by decide⟩ hP hD hS (lv_sub hl [0, 1, 2, 3, 4, 5, 6, 7, 8, 9, 10, 11, 12, 13, 14] rfl)
set_option maxHeartbeats 8000000 in
set_option maxRecDepth 100000 in
theorem law_b672 {p9 : Program} {l : Launch} {e9 : Env} {s : State} {m9 : MethodId} {below : List Frame} {meth : Method} {c9 : Code} {b L : Nat} {xs : Nat → Int32} {D : va_G} {q : Nat → Nat} {qt qo qg qm : Nat} {cI cZ : ClassId} (hL : L ≤ 260) (hfl : l.stackTraces = false) (C0 : lw_At p9 s m9 meth c9 b L xs) (htA : tBA (aL s) s) (hn9 : nC s) (hK : va_K D vwCl (tIZ cI cZ) s) {i x y : Nat} (hi : i < 70) (hx9 : x < 2 ^ 31) (hy : y < 67108864) (k745 : law_tail p9 l e9 s m9 below meth c9 b D q qt qo qg qm cI cZ i x y) {o1 o2 kk z : Nat} (h1 : 1 ≤ o1) (h2 : o1 ≤ 9) (h3 : 1 ≤ o2) (h4 : o2 ≤ 9) {F : Nat → Nat → Int32} {n : Nat} {Rv T M G C : Nat → Int32} {H : Heap} {locs : List Loc} {ls : Array Slot} (hz : z < 32) (hkk : kk < n) (hw : WF F n) (hs : SY F) (hv : IV F n T M G) (hm : C 0 = nI n) (hP : va_P D vwCl (wX q F (nI n) Rv cI cZ ++ [(qt, .inl (cI, 64, .inl (T))), (qo, .inl (cI, 30, .inl (M))), (qg, .inl (cI, 48, .inl (G))), (qm, .inl (cI, 1, .inl (C)))]) H) (hD : va_D (aL s) (wX q F (nI n) Rv cI cZ ++ [(qt, .inl (cI, 64, .inl (T))), (qo, .inl (cI, 30, .inl (M))), (qg, .inl (cI, 48, .inl (G))), (qm, .inl (cI, 1, .inl (C)))])) (hS : va_S (aL s) s.heap H locs) (hl : lv_has ls 17 [(7, .int (nI i)), (6, .int 1), (8, .int (nI x)), (9, .int (nI y)), (10, .int (nI z)), (11, .int (nI o1)), (12, .int (nI o2)), (13, .int (nI kk)), (0, .ref b), (1, .ref (q 9)), (2, .ref qt), (3, .ref qo), (4, .ref qg), (5, .ref qm)]) : W p9 l e9 room_1 s m9 #[Value.ref b] below meth c9 H locs (700 + 320 * i) (4000 + 1900 * i) (lw_Z below #[Value.ref b] s) (F0 m9 672 ls []) := by
  obtain ⟨hx, hb, hr, hml, hown0, hts0, hX, hbl, hlocks, hgv⟩ := id C0
  have hown : s.vm.findClass RL = some m9.cls := hown0
  have hts : ∀ w ∈ wsL_law, w.before #[Value.ref b] s = true := fun w h => hts0 w (wsL_law_in w h)
  have hA : ∀ q : Nat, s.heap.size ≤ q → aL s q := fun _ h => h
  have hbA : ¬ aL s b := Nat.not_le.mpr hbl
  have hn10 := hv.n
  have hn16 := hw.n
  have hgd : mIn (nI kk) 0 (nI n - 1) = true := (gd_iff hn16).mpr ⟨kk, hkk, rfl⟩
  refine lv_aload_n hx hb dL_law_672 rfl (lv_at hl 9 rfl) ?_
  refine lv_iload hx hb dL_law_673 (lv_at hl 7 rfl) ?_
  refine ro_V (As := [.int (nI kk)]) (rest := []) ⟨hx, hb, hml, hown, hts⟩ (v_placeOf l D q F n Rv cI cZ kk hw hkk) (cwV 1 hts gL_law_X0_placeOf rfl rfl rfl (by decide +kernel) ⟨Nat.le_of_ble_eq_true rfl, Nat.le_of_ble_eq_true rfl⟩) hK hP (hP.sub [0, 1, 2, 3, 4, 5, 6, 7, 8, 9] rfl) (va_recv hK hP (ci := 0) (q0 := 0) rfl rfl) hS rfl hl.1 rfl (Nat.le_of_ble_eq_true rfl) dL_law_675 ⟨by show _ ≤ 600130; omega, by show _ ≤ 7301080; omega⟩ (fun r9 H locs h_675 hP hS => ?_)
  obtain rfl := h_675
  refine lv_istore (lv' := [(14, .int (F 7 kk)), (7, .int (nI i)), (6, .int 1), (8, .int (nI x)), (9, .int (nI y)), (10, .int (nI z)), (11, .int (nI o1)), (12, .int (nI o2)), (13, .int (nI kk)), (0, .ref b), (1, .ref (q 9)), (2, .ref qt), (3, .ref qo), (4, .ref qg), (5, .ref qm)]) hx hb dL_law_678 hl (by decide) rfl (fun ls hl => ?_)
  have J711 : ∀ (pl9 : Int32) (H : Heap) (locs : List Loc) (ls : Array Slot), (pl9 = -1 ∨ mIn pl9 0 47 = true) → va_P D vwCl (wX q F (nI n) Rv cI cZ ++ [(qt, .inl (cI, 64, .inl (T))), (qo, .inl (cI, 30, .inl (M))), (qg, .inl (cI, 48, .inl (G))), (qm, .inl (cI, 1, .inl (C)))]) H → va_D (aL s) (wX q F (nI n) Rv cI cZ ++ [(qt, .inl (cI, 64, .inl (T))), (qo, .inl (cI, 30, .inl (M))), (qg, .inl (cI, 48, .inl (G))), (qm, .inl (cI, 1, .inl (C)))]) → va_S (aL s) s.heap H locs → lv_has ls 17 [(14, .int (F 7 kk)), (7, .int (nI i)), (6, .int 1), (8, .int (nI x)), (9, .int (nI y)), (10, .int (nI z)), (11, .int (nI o1)), (12, .int (nI o2)), (13, .int (nI kk)), (0, .ref b), (1, .ref (q 9)), (2, .ref qt), (3, .ref qo), (4, .ref qg), (5, .ref qm)] → W p9 l e9 room_1 s m9 #[Value.ref b] below meth c9 H locs (700 + 320 * i) (4000 + 1900 * i) (lw_Z below #[Value.ref b] s) (F0 m9 711 ls [.int pl9]) := by
    intro pl9 H locs ls hpl hP hD hS hl
    refine lv_istore (lv' := [(15, .int pl9), (14, .int (F 7 kk)), (7, .int (nI i)), (6, .int 1), (8, .int (nI x)), (9, .int (nI y)), (10, .int (nI z)), (11, .int (nI o1)), (12, .int (nI o2)), (13, .int (nI kk)), (0, .ref b), (1, .ref (q 9)), (2, .ref qt), (3, .ref qo), (4, .ref qg), (5, .ref qm)]) hx hb dL_law_711 hl (by decide) rfl (fun ls hl => ?_)
    refine lv_aload_n hx hb dL_law_713 rfl (lv_at hl 11 rfl) ?_
    refine lv_iconst (v := 1) hx hb dL_law_714 (by decide) ?_
    refine lv_iload hx hb dL_law_715 (lv_at hl 9 rfl) ?_
    refine lv_iload hx hb dL_law_717 (lv_at hl 0 rfl) ?_
    refine la_SW (As := [.ref (q 9), .int 1, .int (nI kk), .int pl9]) (rest := []) (wr := [(qt, .inl (cI, 64, .inl (T))), (qo, .inl (cI, 30, .inl (M))), (qg, .inl (cI, 48, .inl (G))), (qm, .inl (cI, 1, .inl (C)))]) ⟨hx, hb, hml, hown, hts⟩ (c_L_of_1 l hfl D q F n Rv cI cZ _ (nI kk) pl9 hw) (vx_cwSW 4 hts gL_law_L_of rfl rfl rfl (by decide +kernel) ⟨Nat.le_of_ble_eq_true rfl, Nat.le_of_ble_eq_true rfl⟩) hn9 htA hK hP hD hA [0, 1, 2, 3, 4, 5, 6, 7, 8, 9] [10, 11, 12, 13] rfl rfl (by decide) rfl (by decide) (by decide) hS rfl hl.1 rfl (Nat.le_of_ble_eq_true rfl) dL_law_719 ⟨by show _ ≤ 600130; omega, by show _ ≤ 7301080; omega⟩ (fun r9 u9 H locs h_719 hP hD hS => ?_)
    obtain ⟨h9a, h9b⟩ := h_719.1 (thP_0 hgd hpl)
    rw [gi_nI (g := kk) (by omega)] at h9a h9b
    subst h9a
    obtain rfl : u9 = (fP F kk pl9) := h9b
    have hP : va_P D vwCl (wX q (fP F kk pl9) (nI n) Rv cI cZ ++ [(qt, .inl (cI, 64, .inl (T))), (qo, .inl (cI, 30, .inl (M))), (qg, .inl (cI, 48, .inl (G))), (qm, .inl (cI, 1, .inl (C)))]) H := hP.sub [4, 5, 6, 7, 8, 9, 10, 11, 12, 13, 0, 1, 2, 3] rfl
    have hD : va_D (aL s) (wX q (fP F kk pl9) (nI n) Rv cI cZ ++ [(qt, .inl (cI, 64, .inl (T))), (qo, .inl (cI, 30, .inl (M))), (qg, .inl (cI, 48, .inl (G))), (qm, .inl (cI, 1, .inl (C)))]) := hD.sub [4, 5, 6, 7, 8, 9, 10, 11, 12, 13, 0, 1, 2, 3] (by decide) rfl
    refine lv_iload hx hb dL_law_722 (lv_at hl 1 rfl) ?_
    refine lv_icmp_ne (x := (F 7 kk)) (y := (F 7 kk)) (tgt := 742) hx hb dL_law_724 (by decide) (fun k => (k rfl : False).elim) (fun c_724 => ?_)
    refine lv_aload_n hx hb dL_law_727 rfl (lv_at hl 11 rfl) ?_
    refine lv_iload hx hb dL_law_728 (lv_at hl 9 rfl) ?_
    refine ro_V (As := [.int (nI kk)]) (rest := []) ⟨hx, hb, hml, hown, hts⟩ (v_placeOf l D q (fP F kk pl9) n Rv cI cZ kk (wf_p hw (thP_ok hpl)) hkk) (cwV 1 hts gL_law_X0_placeOf rfl rfl rfl (by decide +kernel) ⟨Nat.le_of_ble_eq_true rfl, Nat.le_of_ble_eq_true rfl⟩) hK hP (hP.sub [0, 1, 2, 3, 4, 5, 6, 7, 8, 9] rfl) (va_recv hK hP (ci := 0) (q0 := 0) rfl rfl) hS rfl hl.1 rfl (Nat.le_of_ble_eq_true rfl) dL_law_730 ⟨by show _ ≤ 600130; omega, by show _ ≤ 7301080; omega⟩ (fun r9 H locs h_730 hP hS => ?_)
    obtain rfl := h_730
    refine W.eq (g2 := F0 m9 733 ls (.int pl9 :: [])) (congrArg (fun z => F0 m9 733 ls (Value.int z :: [])) (fP_7)) ?_
    refine lv_iload hx hb dL_law_733 (lv_at hl 0 rfl) ?_
    refine lv_icmp_ne (x := pl9) (y := pl9) (tgt := 742) hx hb dL_law_735 (by decide) (fun k => (k rfl : False).elim) (fun c_735 => ?_)
    refine lv_iconst (v := 1) hx hb dL_law_738 (by decide) ?_
    refine lv_goto (tgt := 743) hx hb dL_law_739 (by decide) ?_
    refine lv_istore (lv' := [(6, .int 1), (15, .int pl9), (14, .int (F 7 kk)), (7, .int (nI i)), (8, .int (nI x)), (9, .int (nI y)), (10, .int (nI z)), (11, .int (nI o1)), (12, .int (nI o2)), (13, .int (nI kk)), (0, .ref b), (1, .ref (q 9)), (2, .ref qt), (3, .ref qo), (4, .ref qg), (5, .ref qm)]) hx hb dL_law_743 hl (by decide) rfl (fun ls hl => ?_)
    refine W.widen (k := 710 + 320 * i) (n := 4040 + 1900 * i) (by omega) (by omega) ?_
    exact k745 _ _ _ _ _ _ _ _ _ _ (wf_p hw (thP_ok hpl)) (sy_p hs) (iv_p hv) hm hP hD hS (lv_sub hl [3, 0, 4, 5, 10, 11, 12, 13, 14, 15] rfl)
  refine lv_iload hx hb dL_law_680 (lv_at hl 5 rfl) ?_
  refine lv_bipush (v := 19) hx hb dL_law_682 (by decide) ?_
  refine lv_icmp_ne (x := (nI z)) (y := 19) (tgt := 691) hx hb dL_law_684 (by decide) (fun c_684 => ?_) (fun c_684 => ?_)
  · have c_684 := nq_ne (k := z) (n := 19) c_684 (by omega) (by omega)
    refine lv_iload hx hb dL_law_691 (lv_at hl 4 rfl) ?_
    refine lv_bipush (v := 16) hx hb dL_law_693 (by decide) ?_
    refine lv_idiv hx hb (x := (nI y)) (y := 16) dL_law_695 (by decide) ?_
    refine W.eq (g2 := F0 m9 696 ls (.int (nI (y / 16)) :: [])) (congrArg (fun z => F0 m9 696 ls (Value.int z :: [])) (pk_div (a := y) (d := 16) (by omega) (by omega) (by omega))) ?_
    refine lv_iload hx hb dL_law_696 (lv_at hl 4 rfl) ?_
    refine lv_iconst (v := 3) hx hb dL_law_698 (by decide) ?_
    refine lv_irem hx hb (x := (nI y)) (y := 3) dL_law_699 (by decide) ?_
    refine W.eq (g2 := F0 m9 700 ls (.int (nI (y % 3)) :: [.int (nI (y / 16))])) (congrArg (fun z => F0 m9 700 ls (Value.int z :: [.int (nI (y / 16))])) (pk_rem (a := y) (d := 3) (by omega) (by omega) (by omega))) ?_
    refine lv_if_ne (x := (nI (y % 3))) (tgt := 708) hx hb dL_law_700 (by decide) (fun c_700 => ?_) (fun c_700 => ?_)
    · have c_700 := nq_ne (k := (y % 3)) (n := 0) c_700 (by omega) (by omega)
      refine lv_bipush (v := 14) hx hb dL_law_708 (by decide) ?_
      refine lv_irem hx hb (x := (nI (y / 16))) (y := 14) dL_law_710 (by decide) ?_
      refine W.eq (g2 := F0 m9 711 ls (.int (nI ((y / 16) % 14)) :: [])) (congrArg (fun z => F0 m9 711 ls (Value.int z :: [])) (pk_rem (a := (y / 16)) (d := 14) (by omega) (by omega) (by omega))) ?_
      exact J711 (nI ((y / 16) % 14)) _ _ _ (Or.inr (pl_in (by omega))) hP hD hS (lv_sub hl [0, 1, 2, 3, 4, 5, 6, 7, 8, 9, 10, 11, 12, 13, 14] rfl)
    · have c_700 := nq_eq (k := (y % 3)) (n := 0) c_700 (by omega) (by omega)
      refine lv_bipush (v := 48) hx hb dL_law_703 (by decide) ?_
      refine lv_goto (tgt := 710) hx hb dL_law_705 (by decide) ?_
      refine lv_irem hx hb (x := (nI (y / 16))) (y := 48) dL_law_710 (by decide) ?_
      refine W.eq (g2 := F0 m9 711 ls (.int (nI ((y / 16) % 48)) :: [])) (congrArg (fun z => F0 m9 711 ls (Value.int z :: [])) (pk_rem (a := (y / 16)) (d := 48) (by omega) (by omega) (by omega))) ?_
      exact J711 (nI ((y / 16) % 48)) _ _ _ (Or.inr (pl_in (by omega))) hP hD hS (lv_sub hl [0, 1, 2, 3, 4, 5, 6, 7, 8, 9, 10, 11, 12, 13, 14] rfl)
  · have c_684 := nq_eq (k := z) (n := 19) c_684 (by omega) (by omega)
    refine lv_iconst (v := (-1)) hx hb dL_law_687 (by decide) ?_
    refine lv_goto (tgt := 711) hx hb dL_law_688 (by decide) ?_
    exact J711 (-1) _ _ _ (Or.inl rfl) hP hD hS (lv_sub hl [0, 1, 2, 3, 4, 5, 6, 7, 8, 9, 10, 11, 12, 13, 14] rfl)
set_option maxHeartbeats 8000000 in
set_option maxRecDepth 100000 in
theorem law_305 {p9 : Program} {l : Launch} {e9 : Env} {s : State} {m9 : MethodId} {below : List Frame} {meth : Method} {c9 : Code} {b L : Nat} {xs : Nat → Int32} {D : va_G} {q : Nat → Nat} {qt qo qg qm : Nat} {cI cZ : ClassId} (hL : L ≤ 260) (hfl : l.stackTraces = false) (C0 : lw_At p9 s m9 meth c9 b L xs) (htA : tBA (aL s) s) (hn9 : nC s) (hK : va_K D vwCl (tIZ cI cZ) s) {i x y : Nat} (hi : i < 70) (hx9 : x < 2 ^ 31) (hy : y < 67108864) (k745 : law_tail p9 l e9 s m9 below meth c9 b D q qt qo qg qm cI cZ i x y) {o1 o2 kk z : Nat} (h1 : 1 ≤ o1) (h2 : o1 ≤ 9) (h3 : 1 ≤ o2) (h4 : o2 ≤ 9) {F : Nat → Nat → Int32} {n : Nat} {Rv T M G C : Nat → Int32} {H : Heap} {locs : List Loc} {ls : Array Slot} (hz : z < 32) (hn2 : 2 ≤ n) (hkk : kk < n) (hw : WF F n) (hs : SY F) (hv : IV F n T M G) (hm : C 0 = nI n) (hP : va_P D vwCl (wX q F (nI n) Rv cI cZ ++ [(qt, .inl (cI, 64, .inl (T))), (qo, .inl (cI, 30, .inl (M))), (qg, .inl (cI, 48, .inl (G))), (qm, .inl (cI, 1, .inl (C)))]) H) (hD : va_D (aL s) (wX q F (nI n) Rv cI cZ ++ [(qt, .inl (cI, 64, .inl (T))), (qo, .inl (cI, 30, .inl (M))), (qg, .inl (cI, 48, .inl (G))), (qm, .inl (cI, 1, .inl (C)))])) (hS : va_S (aL s) s.heap H locs) (hl : lv_has ls 17 [(7, .int (nI i)), (6, .int 1), (8, .int (nI x)), (9, .int (nI y)), (10, .int (nI z)), (11, .int (nI o1)), (12, .int (nI o2)), (13, .int (nI kk)), (0, .ref b), (1, .ref (q 9)), (2, .ref qt), (3, .ref qo), (4, .ref qg), (5, .ref qm)]) : W p9 l e9 room_1 s m9 #[Value.ref b] below meth c9 H locs (700 + 320 * i) (4000 + 1900 * i) (lw_Z below #[Value.ref b] s) (F0 m9 305 ls []) := by
  obtain ⟨hx, hb, hr, hml, hown0, hts0, hX, hbl, hlocks, hgv⟩ := id C0
  have hown : s.vm.findClass RL = some m9.cls := hown0
  have hts : ∀ w ∈ wsL_law, w.before #[Value.ref b] s = true := fun w h => hts0 w (wsL_law_in w h)
  have hA : ∀ q : Nat, s.heap.size ≤ q → aL s q := fun _ h => h
  have hbA : ¬ aL s b := Nat.not_le.mpr hbl
  have hn10 := hv.n
  have hn16 := hw.n
  refine lv_iload hx hb dL_law_305 (lv_at hl 4 rfl) ?_
  refine lv_bipush (v := 14) hx hb dL_law_307 (by decide) ?_
  refine lv_icmp_ge (x := (nI z)) (y := 14) (tgt := 394) hx hb dL_law_309 (by decide) (fun c_309 => ?_) (fun c_309 => ?_)
  · have c_309 := nl_ge (k := z) (n := 14) c_309 (by omega) (by omega)
    refine lv_iload hx hb dL_law_394 (lv_at hl 4 rfl) ?_
    refine lv_bipush (v := 16) hx hb dL_law_396 (by decide) ?_
    refine lv_icmp_ge (x := (nI z)) (y := 16) (tgt := 482) hx hb dL_law_398 (by decide) (fun c_398 => ?_) (fun c_398 => ?_)
    · have c_398 := nl_ge (k := z) (n := 16) c_398 (by omega) (by omega)
      refine lv_iload hx hb dL_law_482 (lv_at hl 4 rfl) ?_
      refine lv_bipush (v := 16) hx hb dL_law_484 (by decide) ?_
      refine lv_icmp_ne (x := (nI z)) (y := 16) (tgt := 591) hx hb dL_law_486 (by decide) (fun c_486 => ?_) (fun c_486 => ?_)
      · have c_486 := nq_ne (k := z) (n := 16) c_486 (by omega) (by omega)
        refine lv_iload hx hb dL_law_591 (lv_at hl 4 rfl) ?_
        refine lv_bipush (v := 19) hx hb dL_law_593 (by decide) ?_
        refine lv_icmp_ge (x := (nI z)) (y := 19) (tgt := 672) hx hb dL_law_595 (by decide) (fun c_595 => ?_) (fun c_595 => ?_)
        · have c_595 := nl_ge (k := z) (n := 19) c_595 (by omega) (by omega)
          exact law_b672 hL hfl C0 htA hn9 hK hi hx9 hy k745 h1 h2 h3 h4 hz hkk hw hs hv hm hP hD hS (lv_sub hl [0, 1, 2, 3, 4, 5, 6, 7, 8, 9, 10, 11, 12, 13] rfl)
        · have c_595 := nl_lt (k := z) (n := 19) c_595 (by omega) (by omega)
          exact law_b598 hL hfl C0 htA hn9 hK hi hx9 hy k745 h1 h2 h3 h4 hkk hw hs hv hm hP hD hS (lv_sub hl [0, 1, 2, 3, 4, 5, 6, 7, 8, 9, 10, 11, 12, 13] rfl)
      · have c_486 := nq_eq (k := z) (n := 16) c_486 (by omega) (by omega)
        exact law_b489 hL hfl C0 htA hn9 hK hi hx9 hy k745 h1 h2 h3 h4  hw hs hv hm hP hD hS (lv_sub hl [0, 1, 2, 3, 4, 5, 6, 7, 8, 9, 10, 11, 12, 13] rfl)
    · have c_398 := nl_lt (k := z) (n := 16) c_398 (by omega) (by omega)
      exact law_b401 hL hfl C0 htA hn9 hK hi hx9 hy k745 h1 h2 h3 h4  hw hs hv hm hP hD hS (lv_sub hl [0, 1, 2, 3, 4, 5, 6, 7, 8, 9, 10, 11, 12, 13] rfl)
  · have c_309 := nl_lt (k := z) (n := 14) c_309 (by omega) (by omega)
    exact law_b312 hL hfl C0 htA hn9 hK hi hx9 hy k745 h1 h2 h3 h4  hw hs hv hm hP hD hS (lv_sub hl [0, 1, 2, 3, 4, 5, 6, 7, 8, 9, 10, 11, 12, 13] rfl)

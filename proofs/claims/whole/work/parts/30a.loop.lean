/-! the loop, and the start -/
set_option maxHeartbeats 4000000 in
set_option maxRecDepth 100000 in
theorem law_loop {p9 : Program} {l : Launch} {e9 : Env} {s : State} {m9 : MethodId} {below : List Frame} {meth : Method} {c9 : Code} {b L : Nat} {xs : Nat → Int32} (hL : L ≤ 2048) (hfl : l.stackTraces = false) (C0 : lw_At p9 s m9 meth c9 b L xs) (ht : tB s) (hn9 : nC s) {D : va_G} {qx qm : Nat → Nat} {qo : Nat} {cI cZ cL : ClassId} (hK : va_K D vwCl (tIZL cI cZ cL) s) : ∀ (d i : Nat), i ≤ 2048 → 2056 - i < d → law_next p9 l e9 s m9 below meth c9 b D qx qm qo cI cZ cL i := by
  obtain ⟨hx, hb, hr, hml, hown0, hts0, hX, hbl, hlocks, hgv⟩ := id C0
  have hbA : ¬ aL s b := Nat.not_le.mpr hbl
  intro d
  induction d with
  | zero => intro i _ h; exact absurd h (Nat.not_lt_zero _)
  | succ d ih =>
    intro i hi9 hd F n Rx Rm th o H locs ls hw hs hP hD hS hl
    refine lv_iload hx hb dL_law_23 (lv_at hl 0 rfl) ?_
    refine lv_aload_n hx hb dL_law_25 rfl (lv_at hl 1 rfl) ?_
    refine va_slen hx hb hX hbl hbA hS dL_law_26 ?_
    refine W.eq (g2 := F0 m9 27 ls (.int (nI L) :: [.int (nI i)])) rfl ?_
    refine lv_iconst (v := 4) hx hb dL_law_27 (by decide) ?_
    refine lv_isub hx hb (x := nI L) (y := 4) dL_law_28 ?_
    refine lv_icmp_gt (x := nI i) (y := nI L - 4) (tgt := 1309) hx hb dL_law_29 (by decide) (fun c_29 => ?_) (fun c_29 => ?_)
    · refine lv_iconst (v := 1) hx hb dL_law_1309 (by decide) ?_
      refine va_forget (fun q h => hS.2.2 q h) ?_
      refine W.widen (k := 647008) (n := 7155079) (by omega) (by omega) ?_
      exact lw_ret hx hb hr hlocks dL_law_1310
    · have hi : i + 4 ≤ L := lim_in hL (by omega) c_29
      refine lv_aload_n hx hb dL_law_32 rfl (lv_at hl 1 rfl) ?_
      refine lv_iload hx hb dL_law_33 (lv_at hl 0 rfl) ?_
      refine xsld hx hb hX hbl hbA hS (k := i) (by omega) (by omega) dL_law_35 ?_
      refine lv_bipush (v := 31) hx hb dL_law_36 (by decide) ?_
      refine lv_iand hx hb (x := xs i) (y := 31) dL_law_38 ?_
      obtain ⟨j, hj, ej⟩ := pk_andE (xs i) (m := 31) 5 (by decide)
      refine W.eq (g2 := F0 m9 39 ls (.int (nI j) :: [])) (congrArg (fun z => F0 m9 39 ls (Value.int z :: [])) ej) ?_
      have ihn := ih (i + 4) (by omega) (by omega)
      clear ej
      rcases Nat.lt_or_ge j 21 with q | q
      · match j, q with
        | 0, _ => exact lv_tableIn (x := nI 0) (off := 97) (tgt := 136) hx hb dL_law_39 (by decide +kernel) (by decide +kernel) (by decide +kernel) (by decide) (law_c0 hL hfl C0 ht hn9 hK hi hw hs hP hD hS hl ihn)
        | 1, _ => exact lv_tableIn (x := nI 1) (off := 177) (tgt := 216) hx hb dL_law_39 (by decide +kernel) (by decide +kernel) (by decide +kernel) (by decide) (law_c1 hL hfl C0 ht hn9 hK hi hw hs hP hD hS hl ihn)
        | 2, _ => exact lv_tableIn (x := nI 2) (off := 237) (tgt := 276) hx hb dL_law_39 (by decide +kernel) (by decide +kernel) (by decide +kernel) (by decide) (law_c2 hL hfl C0 ht hn9 hK hi hw hs hP hD hS hl ihn)
        | 3, _ => exact lv_tableIn (x := nI 3) (off := 340) (tgt := 379) hx hb dL_law_39 (by decide +kernel) (by decide +kernel) (by decide +kernel) (by decide) (law_c3 hL hfl C0 ht hn9 hK hi hw hs hP hD hS hl ihn)
        | 4, _ => exact lv_tableIn (x := nI 4) (off := 408) (tgt := 447) hx hb dL_law_39 (by decide +kernel) (by decide +kernel) (by decide +kernel) (by decide) (law_c4 hL hfl C0 ht hn9 hK hi hw hs hP hD hS hl ihn)
        | 5, _ => exact lv_tableIn (x := nI 5) (off := 488) (tgt := 527) hx hb dL_law_39 (by decide +kernel) (by decide +kernel) (by decide +kernel) (by decide) (law_c5 hL hfl C0 ht hn9 hK hi hw hs hP hD hS hl ihn)
        | 6, _ => exact lv_tableIn (x := nI 6) (off := 556) (tgt := 595) hx hb dL_law_39 (by decide +kernel) (by decide +kernel) (by decide +kernel) (by decide) (law_c6 hL hfl C0 ht hn9 hK hi hw hs hP hD hS hl ihn)
        | 7, _ => exact lv_tableIn (x := nI 7) (off := 624) (tgt := 663) hx hb dL_law_39 (by decide +kernel) (by decide +kernel) (by decide +kernel) (by decide) (law_c7 hL hfl C0 ht hn9 hK hi hw hs hP hD hS hl ihn)
        | 8, _ => exact lv_tableIn (x := nI 8) (off := 637) (tgt := 676) hx hb dL_law_39 (by decide +kernel) (by decide +kernel) (by decide +kernel) (by decide) (law_c8 hL hfl C0 ht hn9 hK hi hw hs hP hD hS hl ihn)
        | 9, _ => exact lv_tableIn (x := nI 9) (off := 693) (tgt := 732) hx hb dL_law_39 (by decide +kernel) (by decide +kernel) (by decide +kernel) (by decide) (law_c9 hL hfl C0 ht hn9 hK hi hw hs hP hD hS hl ihn)
        | 10, _ => exact lv_tableIn (x := nI 10) (off := 756) (tgt := 795) hx hb dL_law_39 (by decide +kernel) (by decide +kernel) (by decide +kernel) (by decide) (law_c10 hL hfl C0 ht hn9 hK hi hw hs hP hD hS hl ihn)
        | 11, _ => exact lv_tableIn (x := nI 11) (off := 819) (tgt := 858) hx hb dL_law_39 (by decide +kernel) (by decide +kernel) (by decide +kernel) (by decide) (law_c11 hL hfl C0 ht hn9 hK hi hw hs hP hD hS hl ihn)
        | 12, _ => exact lv_tableIn (x := nI 12) (off := 887) (tgt := 926) hx hb dL_law_39 (by decide +kernel) (by decide +kernel) (by decide +kernel) (by decide) (law_c12 hL hfl C0 ht hn9 hK hi hw hs hP hD hS hl ihn)
        | 13, _ => exact lv_tableIn (x := nI 13) (off := 962) (tgt := 1001) hx hb dL_law_39 (by decide +kernel) (by decide +kernel) (by decide +kernel) (by decide) (law_c13 hL hfl C0 ht hn9 hK hi hw hs hP hD hS hl ihn)
        | 14, _ => exact lv_tableIn (x := nI 14) (off := 1025) (tgt := 1064) hx hb dL_law_39 (by decide +kernel) (by decide +kernel) (by decide +kernel) (by decide) (law_c14 hL hfl C0 ht hn9 hK hi hw hs hP hD hS hl ihn)
        | 15, _ => exact lv_tableIn (x := nI 15) (off := 1038) (tgt := 1077) hx hb dL_law_39 (by decide +kernel) (by decide +kernel) (by decide +kernel) (by decide) (law_c15 hL hfl C0 ht hn9 hK hi hw hs hP hD hS hl ihn)
        | 16, _ => exact lv_tableIn (x := nI 16) (off := 1094) (tgt := 1133) hx hb dL_law_39 (by decide +kernel) (by decide +kernel) (by decide +kernel) (by decide) (law_c16 hL hfl C0 ht hn9 hK hi hw hs hP hD hS hl ihn)
        | 17, _ => exact lv_tableIn (x := nI 17) (off := 1107) (tgt := 1146) hx hb dL_law_39 (by decide +kernel) (by decide +kernel) (by decide +kernel) (by decide) (law_c17 hL hfl C0 ht hn9 hK hi hw hs hP hD hS hl ihn)
        | 18, _ => exact lv_tableIn (x := nI 18) (off := 1182) (tgt := 1221) hx hb dL_law_39 (by decide +kernel) (by decide +kernel) (by decide +kernel) (by decide) (law_c18 hL hfl C0 ht hn9 hK hi hw hs hP hD hS hl ihn)
        | 19, _ => exact lv_tableIn (x := nI 19) (off := 1238) (tgt := 1277) hx hb dL_law_39 (by decide +kernel) (by decide +kernel) (by decide +kernel) (by decide) (law_c19 hL hfl C0 ht hn9 hK hi hw hs hP hD hS hl ihn)
        | 20, _ => exact lv_tableIn (x := nI 20) (off := 1251) (tgt := 1290) hx hb dL_law_39 (by decide +kernel) (by decide +kernel) (by decide +kernel) (by decide) (law_c20 hL hfl C0 ht hn9 hK hi hw hs hP hD hS hl ihn)
        | k + 21, q => exact absurd q (by omega)
      · refine lv_tableOut (x := nI j) (tgt := 1303) hx hb dL_law_39 (Or.inr (by rw [nI_toInt (by omega)]; omega)) (by decide) ?_
        refine lv_iinc (v := (nI (i + 4))) (lv' := [(4, .int (nI (i + 4))), (0, .ref b), (1, .ref (qx 9)), (2, .ref (qm 9)), (3, .ref qo)]) hx hb dL_law_1303 hl (k := 0) rfl (nI_add i 4) (by decide) rfl (fun ls hl => ?_)
        refine lv_goto (tgt := 23) hx hb dL_law_1306 (by decide) ?_
        refine W.widen (k := 21 + 2 * (i + 4)) (n := 462 + 8 * (i + 4)) (by omega) (by omega) ?_
        exact ihn F n _ _ _ _ _ _ _ hw hs hP hD hS (lv_sub hl [0, 1, 2, 3, 4] rfl)

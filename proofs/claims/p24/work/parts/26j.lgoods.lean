/-! areGoods -/
set_option maxHeartbeats 8000000 in
set_option maxRecDepth 100000 in
theorem c_L_areGoods (l : Launch) (D : va_G) (q : Nat → Nat) (F : Nat → Nat → Int32) (n : Nat) (R : Nat → Int32) (cI cZ : ClassId) (qt : Nat) (T : Nat → Int32) (qo : Nat) (M : Nat → Int32) (qg : Nat) (G : Nat → Int32) (qm : Nat) (C : Nat → Int32) (hw : WF F n) (hs : SY F) (hv : IV F n T M G) (hm : C 0 = nI n) : Met l yL_areGoods wsL_areGoods ({ frames := 7, cells := 0, slots := 0, locals := 177 }) (va_Pc [.ref (q 9), .ref qt, .ref qo, .ref qg, .ref qm] (rW D (wX q F (nI n) R cI cZ ++ [(qt, .inl (cI, 64, .inl T)), (qo, .inl (cI, 30, .inl M)), (qg, .inl (cI, 48, .inl G)), (qm, .inl (cI, 1, .inl C))]) (tIZ cI cZ))) (RO (fun r => r = 1)) 0 0 nA := by
  refine ro_of (own := RL) (cc := cL_areGoods) (maxL := 15) (ret := (some .boolean)) (by decide) rfl rfl (Nat.le_of_ble_eq_true rfl) ?_
  intro p9 e9 s m9 a9 below meth c9 ls hx hb hr hml hlocks hown hts hP hK hl
  have hS : va_S nA s.heap s.heap [] := va_S.rf
  have hl : lv_has ls 15 [(0, .ref (q 9)), (1, .ref qt), (2, .ref qo), (3, .ref qg), (4, .ref qm)] := hl
  have hn10 := hv.n
  have hn16 := hw.n
  refine lv_iconst (v := 0) hx hb dL_areGoods_0 (by decide) ?_
  refine lv_istore (lv' := [(5, .int 0), (0, .ref (q 9)), (1, .ref qt), (2, .ref qo), (3, .ref qg), (4, .ref qm)]) hx hb dL_areGoods_1 hl (by decide) rfl (fun ls hl => ?_)
  refine lv_iconst (v := 0) hx hb dL_areGoods_3 (by decide) ?_
  refine lv_istore (lv' := [(6, .int 0), (5, .int 0), (0, .ref (q 9)), (1, .ref qt), (2, .ref qo), (3, .ref qg), (4, .ref qm)]) hx hb dL_areGoods_4 hl (by decide) rfl (fun ls hl => ?_)
  refine lv_aload_n hx hb dL_areGoods_6 rfl (lv_at hl 2 rfl) ?_
  refine ro_V (As := []) (rest := []) ⟨hx, hb, hml, hown, hts⟩ (c_X0_goods l D q F n R cI cZ) (cwV 0 hts gL_areGoods_X0_goods rfl rfl rfl (by decide +kernel) ⟨Nat.le_of_ble_eq_true rfl, Nat.le_of_ble_eq_true rfl⟩) hK hP (hP.sub [0, 1, 2, 3, 4, 5, 6, 7, 8, 9] rfl) (va_recv hK hP (ci := 0) (q0 := 0) rfl rfl) hS rfl hl.1 rfl (Nat.le_of_ble_eq_true rfl) dL_areGoods_7 ⟨Nat.le_of_ble_eq_true rfl, Nat.le_of_ble_eq_true rfl⟩ (fun r9 H locs h_7 hP hS => ?_)
  obtain rfl := h_7
  refine lv_aload hx hb dL_areGoods_10 (lv_at hl 6 rfl) ?_
  refine lv_iconst (v := 0) hx hb dL_areGoods_12 (by decide) ?_
  refine xiald (g := 0) hx hb hK hP 13 0 rfl rfl (by omega) (by decide) dL_areGoods_13 ?_
  refine W.eq (g2 := F0 m9 14 ls (.int (nI n) :: [.int (nI n)])) (congrArg (fun z => F0 m9 14 ls (Value.int z :: [.int (nI n)])) (hm)) ?_
  refine lv_icmp_ne (x := (nI n)) (y := (nI n)) (tgt := 21) hx hb dL_areGoods_14 (by decide) (fun k => (k rfl : False).elim) (fun c_14 => ?_)
  refine lv_iconst (v := 1) hx hb dL_areGoods_17 (by decide) ?_
  refine lv_goto (tgt := 22) hx hb dL_areGoods_18 (by decide) ?_
  refine lv_istore (lv' := [(7, .int 1), (6, .int 0), (5, .int 0), (0, .ref (q 9)), (1, .ref qt), (2, .ref qo), (3, .ref qg), (4, .ref qm)]) hx hb dL_areGoods_22 hl (by decide) rfl (fun ls hl => ?_)
  refine lv_iconst (v := 0) hx hb dL_areGoods_24 (by decide) ?_
  refine lv_istore (lv' := [(8, .int 0), (7, .int 1), (6, .int 0), (5, .int 0), (0, .ref (q 9)), (1, .ref qt), (2, .ref qo), (3, .ref qg), (4, .ref qm)]) hx hb dL_areGoods_25 hl (by decide) rfl (fun ls hl => ?_)
  have L27 : ∀ (d9 : Nat) (k : Nat) (H : Heap) (locs : List Loc) (ls : Array Slot), n - k < d9 → (k ≤ n) → va_P D vwCl (wX q F (nI n) R cI cZ ++ [(qt, .inl (cI, 64, .inl (T))), (qo, .inl (cI, 30, .inl (M))), (qg, .inl (cI, 48, .inl (G))), (qm, .inl (cI, 1, .inl (C)))]) H → va_S nA s.heap H locs → lv_has ls 15 [(8, .int (nI k)), (5, .int (nI (cB F n k))), (6, .int (nI (cM F k))), (7, .int 1), (0, .ref (q 9)), (1, .ref qt), (2, .ref qo), (3, .ref qg), (4, .ref qm)] → W p9 l e9 ({ frames := 7, cells := 0, slots := 0, locals := 177 }) s m9 a9 below meth c9 H locs (0) (0) (MQ below (RO (fun r => r = 1)) a9 s 0 0 nA) (F0 m9 27 ls []) := by
    intro d9
    induction d9 with
    | zero => intro k H locs ls h9; exact absurd h9 (Nat.not_lt_zero _)
    | succ d9 ih27 =>
      intro k H locs ls hd27 hk hP hS hl
      refine lv_iload hx hb dL_areGoods_27 (lv_at hl 0 rfl) ?_
      refine lv_aload hx hb dL_areGoods_29 (lv_at hl 8 rfl) ?_
      refine lv_iconst (v := 0) hx hb dL_areGoods_31 (by decide) ?_
      refine xiald (g := 0) hx hb hK hP 13 0 rfl rfl (by omega) (by decide) dL_areGoods_32 ?_
      refine W.eq (g2 := F0 m9 33 ls (.int (nI n) :: [.int (nI k)])) (congrArg (fun z => F0 m9 33 ls (Value.int z :: [.int (nI k)])) (hm)) ?_
      refine lv_icmp_ge (x := (nI k)) (y := (nI n)) (tgt := 449) hx hb dL_areGoods_33 (by decide) (fun c_33 => ?_) (fun c_33 => ?_)
      · have c_33 := nl_ge (k := k) (n := n) c_33 (by omega) (by omega)
        have hkn : k = n := by omega
        refine lv_iload hx hb dL_areGoods_449 (lv_at hl 3 rfl) ?_
        refine lv_if_eq (x := 1) (tgt := 489) hx hb dL_areGoods_451 (by decide) (fun k => absurd k (by decide)) (fun _ => ?_)
        refine lv_iload hx hb dL_areGoods_454 (lv_at hl 1 rfl) ?_
        refine lv_iconst (v := 2) hx hb dL_areGoods_456 (by decide) ?_
        refine lv_aload_n hx hb dL_areGoods_457 rfl (lv_at hl 4 rfl) ?_
        refine ro_V (As := []) (rest := [.int 2, .int (nI (cB F n k))]) ⟨hx, hb, hml, hown, hts⟩ (c_X0_breaches l D q F n R cI cZ hw) (cwV 0 hts gL_areGoods_X0_breaches rfl rfl rfl (by decide +kernel) ⟨Nat.le_of_ble_eq_true rfl, Nat.le_of_ble_eq_true rfl⟩) hK hP (hP.sub [0, 1, 2, 3, 4, 5, 6, 7, 8, 9] rfl) (va_recv hK hP (ci := 0) (q0 := 0) rfl rfl) hS rfl hl.1 rfl (Nat.le_of_ble_eq_true rfl) dL_areGoods_458 ⟨Nat.le_of_ble_eq_true rfl, Nat.le_of_ble_eq_true rfl⟩ (fun r9 H locs h_458 hP hS => ?_)
        obtain rfl := h_458
        refine lv_imul hx hb (x := 2) (y := (nI (cO F n n))) dL_areGoods_461 ?_
        refine W.eq (g2 := F0 m9 462 ls (.int (nI (2 * (cO F n n))) :: [.int (nI (cB F n k))])) (congrArg (fun z => F0 m9 462 ls (Value.int z :: [.int (nI (cB F n k))])) (pk_mul 2 (cO F n n))) ?_
        refine lv_icmp_ne (x := (nI (cB F n k))) (y := (nI (2 * (cO F n n)))) (tgt := 489) hx hb dL_areGoods_462 (by decide) (fun k => (k (by rw [hkn]; exact congrArg nI (sum_two hw hs)) : False).elim) (fun c_462 => ?_)
        have hB9 : cB F n k ≤ 256 := cB_le hn16 (by omega)
        have hM9 := cM_le F k
        refine lv_aload_n hx hb dL_areGoods_465 rfl (lv_at hl 4 rfl) ?_
        refine ro_V (As := []) (rest := []) ⟨hx, hb, hml, hown, hts⟩ (c_X0_isClean l D q F n R cI cZ hw) (cwV 0 hts gL_areGoods_X0_isClean rfl rfl rfl (by decide +kernel) ⟨Nat.le_of_ble_eq_true rfl, Nat.le_of_ble_eq_true rfl⟩) hK hP (hP.sub [0, 1, 2, 3, 4, 5, 6, 7, 8, 9] rfl) (va_recv hK hP (ci := 0) (q0 := 0) rfl rfl) hS rfl hl.1 rfl (Nat.le_of_ble_eq_true rfl) dL_areGoods_466 ⟨Nat.le_of_ble_eq_true rfl, Nat.le_of_ble_eq_true rfl⟩ (fun r9 H locs h_466 hP hS => ?_)
        obtain rfl := h_466
        refine lv_iload hx hb dL_areGoods_469 (lv_at hl 1 rfl) ?_
        refine lv_iload hx hb dL_areGoods_471 (lv_at hl 2 rfl) ?_
        refine lv_iadd hx hb (x := (nI (cB F n k))) (y := (nI (cM F k))) dL_areGoods_473 ?_
        refine W.eq (g2 := F0 m9 474 ls (.int (nI ((cB F n k) + (cM F k))) :: [.int (bi (allB (fun k => sClean F n k (F 7 k)) n))])) (congrArg (fun z => F0 m9 474 ls (Value.int z :: [.int (bi (allB (fun k => sClean F n k (F 7 k)) n))])) (nI_add (cB F n k) (cM F k))) ?_
        refine lv_if_ne (x := (nI ((cB F n k) + (cM F k)))) (tgt := 481) hx hb dL_areGoods_474 (by decide) (fun c_474 => ?_) (fun c_474 => ?_)
        · have c_474 := nq_ne (k := ((cB F n k) + (cM F k))) (n := 0) c_474 (by omega) (by omega)
          refine lv_iconst (v := 0) hx hb dL_areGoods_481 (by decide) ?_
          refine lv_icmp_ne (x := (bi (allB (fun k => sClean F n k (F 7 k)) n))) (y := 0) (tgt := 489) hx hb dL_areGoods_482 (by decide) (fun k => (k (by have h9 : allB (fun k => sClean F n k (F 7 k)) n = false := tb_f (fun e => c_474 (by rw [hkn]; exact (cl_sum hw).mpr e)); rw [h9]; rfl) : False).elim) (fun c_482 => ?_)
          refine lv_iconst (v := 1) hx hb dL_areGoods_485 (by decide) ?_
          refine lv_goto (tgt := 490) hx hb dL_areGoods_486 (by decide) ?_
          exact W.zret hx hb hr zn1 (fun t ht9 hW => ⟨⟨_, (), rfl, (by show 1 = 1; exact rfl), trivial⟩, hS.F ht9⟩) hS.2.2 dL_areGoods_490
        · have c_474 := nq_eq (k := ((cB F n k) + (cM F k))) (n := 0) c_474 (by omega) (by omega)
          refine lv_iconst (v := 1) hx hb dL_areGoods_477 (by decide) ?_
          refine lv_goto (tgt := 482) hx hb dL_areGoods_478 (by decide) ?_
          refine lv_icmp_ne (x := (bi (allB (fun k => sClean F n k (F 7 k)) n))) (y := 1) (tgt := 489) hx hb dL_areGoods_482 (by decide) (fun k => (k (by rw [(cl_sum hw).mp (by rw [hkn] at c_474; exact c_474)]; rfl) : False).elim) (fun c_482 => ?_)
          refine lv_iconst (v := 1) hx hb dL_areGoods_485 (by decide) ?_
          refine lv_goto (tgt := 490) hx hb dL_areGoods_486 (by decide) ?_
          exact W.zret hx hb hr zn1 (fun t ht9 hW => ⟨⟨_, (), rfl, (by show 1 = 1; exact rfl), trivial⟩, hS.F ht9⟩) hS.2.2 dL_areGoods_490
      · have c_33 := nl_lt (k := k) (n := n) c_33 (by omega) (by omega)
        refine lv_iload hx hb dL_areGoods_36 (lv_at hl 3 rfl) ?_
        refine lv_if_eq (x := 1) (tgt := 449) hx hb dL_areGoods_38 (by decide) (fun k => absurd k (by decide)) (fun _ => ?_)
        refine lv_aload_n hx hb dL_areGoods_41 rfl (lv_at hl 4 rfl) ?_
        refine lv_iload hx hb dL_areGoods_42 (lv_at hl 0 rfl) ?_
        refine ro_V (As := [.int (nI k)]) (rest := []) ⟨hx, hb, hml, hown, hts⟩ (v_placeOf l D q F n R cI cZ k hw c_33) (cwV 1 hts gL_areGoods_X0_placeOf rfl rfl rfl (by decide +kernel) ⟨Nat.le_of_ble_eq_true rfl, Nat.le_of_ble_eq_true rfl⟩) hK hP (hP.sub [0, 1, 2, 3, 4, 5, 6, 7, 8, 9] rfl) (va_recv hK hP (ci := 0) (q0 := 0) rfl rfl) hS rfl hl.1 rfl (Nat.le_of_ble_eq_true rfl) dL_areGoods_44 ⟨Nat.le_of_ble_eq_true rfl, Nat.le_of_ble_eq_true rfl⟩ (fun r9 H locs h_44 hP hS => ?_)
        obtain rfl := h_44
        refine lv_istore (lv' := [(9, .int (F 7 k)), (8, .int (nI k)), (5, .int (nI (cB F n k))), (6, .int (nI (cM F k))), (7, .int 1), (0, .ref (q 9)), (1, .ref qt), (2, .ref qo), (3, .ref qg), (4, .ref qm)]) hx hb dL_areGoods_47 hl (by decide) rfl (fun ls hl => ?_)
        refine lv_aload_n hx hb dL_areGoods_49 rfl (lv_at hl 5 rfl) ?_
        refine lv_iload hx hb dL_areGoods_50 (lv_at hl 1 rfl) ?_
        refine ro_V (As := [.int (nI k)]) (rest := []) ⟨hx, hb, hml, hown, hts⟩ (v_inBreachWith l D q F n R cI cZ k hw c_33) (cwV 1 hts gL_areGoods_X0_inBreachWith rfl rfl rfl (by decide +kernel) ⟨Nat.le_of_ble_eq_true rfl, Nat.le_of_ble_eq_true rfl⟩) hK hP (hP.sub [0, 1, 2, 3, 4, 5, 6, 7, 8, 9] rfl) (va_recv hK hP (ci := 0) (q0 := 0) rfl rfl) hS rfl hl.1 rfl (Nat.le_of_ble_eq_true rfl) dL_areGoods_52 ⟨Nat.le_of_ble_eq_true rfl, Nat.le_of_ble_eq_true rfl⟩ (fun r9 H locs h_52 hP hS => ?_)
        obtain rfl := h_52
        refine lv_istore (lv' := [(10, .int (nI (sAt F n k (F 7 k)))), (9, .int (F 7 k)), (8, .int (nI k)), (5, .int (nI (cB F n k))), (6, .int (nI (cM F k))), (7, .int 1), (0, .ref (q 9)), (1, .ref qt), (2, .ref qo), (3, .ref qg), (4, .ref qm)]) hx hb dL_areGoods_55 hl (by decide) rfl (fun ls hl => ?_)
        have J124 : ∀  (H : Heap) (locs : List Loc) (ls : Array Slot), va_P D vwCl (wX q F (nI n) R cI cZ ++ [(qt, .inl (cI, 64, .inl (T))), (qo, .inl (cI, 30, .inl (M))), (qg, .inl (cI, 48, .inl (G))), (qm, .inl (cI, 1, .inl (C)))]) H → va_S nA s.heap H locs → lv_has ls 15 [(8, .int (nI k)), (5, .int (nI (cB F n k))), (6, .int (nI (cM F k))), (7, .int 1), (9, .int (F 7 k)), (10, .int (nI (sAt F n k (F 7 k)))), (0, .ref (q 9)), (1, .ref qt), (2, .ref qo), (3, .ref qg), (4, .ref qm)] → W p9 l e9 ({ frames := 7, cells := 0, slots := 0, locals := 177 }) s m9 a9 below meth c9 H locs (0) (0) (MQ below (RO (fun r => r = 1)) a9 s 0 0 nA) (F0 m9 124 ls [.int (bi (brd F k (F 7 k)))]) := by
          intro  H locs ls  hP hS hl
          refine lv_istore (lv' := [(11, .int (bi (brd F k (F 7 k)))), (8, .int (nI k)), (5, .int (nI (cB F n k))), (6, .int (nI (cM F k))), (7, .int 1), (9, .int (F 7 k)), (10, .int (nI (sAt F n k (F 7 k)))), (0, .ref (q 9)), (1, .ref qt), (2, .ref qo), (3, .ref qg), (4, .ref qm)]) hx hb dL_areGoods_124 hl (by decide) rfl (fun ls hl => ?_)
          refine lv_iload hx hb dL_areGoods_126 (lv_at hl 3 rfl) ?_
          refine lv_aload_n hx hb dL_areGoods_128 rfl (lv_at hl 7 rfl) ?_
          refine lv_iload hx hb dL_areGoods_129 (lv_at hl 1 rfl) ?_
          refine ro_V (As := [.int (nI k)]) (rest := [.int (nI (cM F k))]) ⟨hx, hb, hml, hown, hts⟩ (v_isMisplaced l D q F n R cI cZ k hw c_33) (cwV 1 hts gL_areGoods_X0_isMisplaced rfl rfl rfl (by decide +kernel) ⟨Nat.le_of_ble_eq_true rfl, Nat.le_of_ble_eq_true rfl⟩) hK hP (hP.sub [0, 1, 2, 3, 4, 5, 6, 7, 8, 9] rfl) (va_recv hK hP (ci := 0) (q0 := 0) rfl rfl) hS rfl hl.1 rfl (Nat.le_of_ble_eq_true rfl) dL_areGoods_131 ⟨Nat.le_of_ble_eq_true rfl, Nat.le_of_ble_eq_true rfl⟩ (fun r9 H locs h_131 hP hS => ?_)
          obtain rfl := h_131
          refine bmerge (B := (sMis F k (F 7 k))) (t1 := 141) (t2 := 142) hx hb dL_areGoods_134 (by decide) dL_areGoods_137 dL_areGoods_138 (by decide) dL_areGoods_141 rfl ?_
          refine lv_iadd hx hb (x := (nI (cM F k))) (y := (bi (sMis F k (F 7 k)))) dL_areGoods_142 ?_
          refine W.eq (g2 := F0 m9 143 ls (.int (nI (cM F (k + 1))) :: [])) (congrArg (fun z => F0 m9 143 ls (Value.int z :: [])) (bi_add)) ?_
          refine lv_istore (lv' := [(6, .int (nI (cM F (k + 1)))), (11, .int (bi (brd F k (F 7 k)))), (8, .int (nI k)), (5, .int (nI (cB F n k))), (7, .int 1), (9, .int (F 7 k)), (10, .int (nI (sAt F n k (F 7 k)))), (0, .ref (q 9)), (1, .ref qt), (2, .ref qo), (3, .ref qg), (4, .ref qm)]) hx hb dL_areGoods_143 hl (by decide) rfl (fun ls hl => ?_)
          refine lv_iload hx hb dL_areGoods_145 (lv_at hl 5 rfl) ?_
          refine lv_iconst (v := (-1)) hx hb dL_areGoods_147 (by decide) ?_
          refine lv_icmp_lt (x := (F 7 k)) (y := (-1)) (tgt := 262) hx hb dL_areGoods_148 (by decide) (fun k => (okP_ge (hw.p7 c_33) k : False).elim) (fun c_148 => ?_)
          refine lv_iload hx hb dL_areGoods_151 (lv_at hl 5 rfl) ?_
          refine lv_bipush (v := 48) hx hb dL_areGoods_153 (by decide) ?_
          refine lv_icmp_ge (x := (F 7 k)) (y := 48) (tgt := 262) hx hb dL_areGoods_155 (by decide) (fun k => (okP_lt (hw.p7 c_33) k : False).elim) (fun c_155 => ?_)
          refine lv_aload_n hx hb dL_areGoods_158 rfl (lv_at hl 7 rfl) ?_
          refine lv_iload hx hb dL_areGoods_159 (lv_at hl 2 rfl) ?_
          refine ro_V (As := [.int (nI k)]) (rest := []) ⟨hx, hb, hml, hown, hts⟩ (v_isExcepted l D q F n R cI cZ k hw c_33) (cwV 1 hts gL_areGoods_X0_isExcepted rfl rfl rfl (by decide +kernel) ⟨Nat.le_of_ble_eq_true rfl, Nat.le_of_ble_eq_true rfl⟩) hK hP (hP.sub [0, 1, 2, 3, 4, 5, 6, 7, 8, 9] rfl) (va_recv hK hP (ci := 0) (q0 := 0) rfl rfl) hS rfl hl.1 rfl (Nat.le_of_ble_eq_true rfl) dL_areGoods_161 ⟨Nat.le_of_ble_eq_true rfl, Nat.le_of_ble_eq_true rfl⟩ (fun r9 H locs h_161 hP hS => ?_)
          obtain rfl := h_161
          refine lv_aload_n hx hb dL_areGoods_164 rfl (lv_at hl 10 rfl) ?_
          refine lv_aload_n hx hb dL_areGoods_165 rfl (lv_at hl 9 rfl) ?_
          refine lv_iload hx hb dL_areGoods_166 (lv_at hl 2 rfl) ?_
          refine lv_bipush (v := 10) hx hb dL_areGoods_168 (by decide) ?_
          refine ro_SW (As := [.ref qg, .ref qo, .int (nI k), .int 10]) (rest := [.int (bi (sExc F k))]) ⟨hx, hb, hml, hown, hts⟩ (c_L_isWithin_10 l D cI cZ qg (G) qo (M) k (F := F) (n := n) (T := T) hw hv c_33) (va_cwS 4 hts gL_areGoods_L_isWithin rfl rfl rfl (by decide +kernel) ⟨Nat.le_of_ble_eq_true rfl, Nat.le_of_ble_eq_true rfl⟩) hK hP (hP.sub [12, 11] rfl) hS rfl hl.1 rfl (Nat.le_of_ble_eq_true rfl) dL_areGoods_170 ⟨Nat.le_of_ble_eq_true rfl, Nat.le_of_ble_eq_true rfl⟩ (fun r9 H locs h_170 hP hS => ?_)
          obtain rfl := h_170
          refine lv_icmp_ne (x := (bi (sExc F k))) (y := (bi (sWithin F 2 k))) (tgt := 262) hx hb dL_areGoods_173 (by decide) (fun k => (k rfl : False).elim) (fun c_173 => ?_)
          refine lv_aload_n hx hb dL_areGoods_176 rfl (lv_at hl 7 rfl) ?_
          refine lv_iload hx hb dL_areGoods_177 (lv_at hl 2 rfl) ?_
          refine ro_V (As := [.int (nI k)]) (rest := []) ⟨hx, hb, hml, hown, hts⟩ (v_isLimited l D q F n R cI cZ k hw c_33) (cwV 1 hts gL_areGoods_X0_isLimited rfl rfl rfl (by decide +kernel) ⟨Nat.le_of_ble_eq_true rfl, Nat.le_of_ble_eq_true rfl⟩) hK hP (hP.sub [0, 1, 2, 3, 4, 5, 6, 7, 8, 9] rfl) (va_recv hK hP (ci := 0) (q0 := 0) rfl rfl) hS rfl hl.1 rfl (Nat.le_of_ble_eq_true rfl) dL_areGoods_179 ⟨Nat.le_of_ble_eq_true rfl, Nat.le_of_ble_eq_true rfl⟩ (fun r9 H locs h_179 hP hS => ?_)
          obtain rfl := h_179
          have J207 : ∀  (H : Heap) (locs : List Loc) (ls : Array Slot), va_P D vwCl (wX q F (nI n) R cI cZ ++ [(qt, .inl (cI, 64, .inl (T))), (qo, .inl (cI, 30, .inl (M))), (qg, .inl (cI, 48, .inl (G))), (qm, .inl (cI, 1, .inl (C)))]) H → va_S nA s.heap H locs → lv_has ls 15 [(8, .int (nI k)), (5, .int (nI (cB F n k))), (6, .int (nI (cM F (k + 1)))), (7, .int 1), (9, .int (F 7 k)), (10, .int (nI (sAt F n k (F 7 k)))), (11, .int (bi (brd F k (F 7 k)))), (0, .ref (q 9)), (1, .ref qt), (2, .ref qo), (3, .ref qg), (4, .ref qm)] → W p9 l e9 ({ frames := 7, cells := 0, slots := 0, locals := 177 }) s m9 a9 below meth c9 H locs (0) (0) (MQ below (RO (fun r => r = 1)) a9 s 0 0 nA) (F0 m9 207 ls [.int (bi (sLim F k)), .int (bi (sLim F k))]) := by
            intro  H locs ls  hP hS hl
            refine lv_icmp_ne (x := (bi (sLim F k))) (y := (bi (sLim F k))) (tgt := 262) hx hb dL_areGoods_207 (by decide) (fun k => (k rfl : False).elim) (fun c_207 => ?_)
            refine lv_aload_n hx hb dL_areGoods_210 rfl (lv_at hl 7 rfl) ?_
            refine lv_iload hx hb dL_areGoods_211 (lv_at hl 0 rfl) ?_
            refine ro_V (As := [.int (nI k)]) (rest := []) ⟨hx, hb, hml, hown, hts⟩ (v_isMisplaced l D q F n R cI cZ k hw c_33) (cwV 1 hts gL_areGoods_X0_isMisplaced rfl rfl rfl (by decide +kernel) ⟨Nat.le_of_ble_eq_true rfl, Nat.le_of_ble_eq_true rfl⟩) hK hP (hP.sub [0, 1, 2, 3, 4, 5, 6, 7, 8, 9] rfl) (va_recv hK hP (ci := 0) (q0 := 0) rfl rfl) hS rfl hl.1 rfl (Nat.le_of_ble_eq_true rfl) dL_areGoods_213 ⟨Nat.le_of_ble_eq_true rfl, Nat.le_of_ble_eq_true rfl⟩ (fun r9 H locs h_213 hP hS => ?_)
            obtain rfl := h_213
            have J235 : ∀  (H : Heap) (locs : List Loc) (ls : Array Slot), va_P D vwCl (wX q F (nI n) R cI cZ ++ [(qt, .inl (cI, 64, .inl (T))), (qo, .inl (cI, 30, .inl (M))), (qg, .inl (cI, 48, .inl (G))), (qm, .inl (cI, 1, .inl (C)))]) H → va_S nA s.heap H locs → lv_has ls 15 [(8, .int (nI k)), (5, .int (nI (cB F n k))), (6, .int (nI (cM F (k + 1)))), (7, .int 1), (9, .int (F 7 k)), (10, .int (nI (sAt F n k (F 7 k)))), (11, .int (bi (brd F k (F 7 k)))), (0, .ref (q 9)), (1, .ref qt), (2, .ref qo), (3, .ref qg), (4, .ref qm)] → W p9 l e9 ({ frames := 7, cells := 0, slots := 0, locals := 177 }) s m9 a9 below meth c9 H locs (0) (0) (MQ below (RO (fun r => r = 1)) a9 s 0 0 nA) (F0 m9 235 ls [.int (bi (sMis F k (F 7 k))), .int (bi (sMis F k (F 7 k)))]) := by
              intro  H locs ls  hP hS hl
              refine lv_icmp_ne (x := (bi (sMis F k (F 7 k)))) (y := (bi (sMis F k (F 7 k)))) (tgt := 262) hx hb dL_areGoods_235 (by decide) (fun k => (k rfl : False).elim) (fun c_235 => ?_)
              refine lv_iload hx hb dL_areGoods_238 (lv_at hl 5 rfl) ?_
              refine lv_aload hx hb dL_areGoods_240 (lv_at hl 11 rfl) ?_
              refine lv_iconst (v := 0) hx hb dL_areGoods_242 (by decide) ?_
              refine xiald (g := 0) hx hb hK hP 13 0 rfl rfl (by omega) (by decide) dL_areGoods_243 ?_
              refine W.eq (g2 := F0 m9 244 ls (.int (nI n) :: [.int (nI (sAt F n k (F 7 k)))])) (congrArg (fun z => F0 m9 244 ls (Value.int z :: [.int (nI (sAt F n k (F 7 k)))])) (hm)) ?_
              refine lv_ishr hx hb (x := (nI (sAt F n k (F 7 k)))) (y := (nI n)) dL_areGoods_244 ?_
              refine W.eq (g2 := F0 m9 245 ls (.int 0 :: [])) (congrArg (fun z => F0 m9 245 ls (Value.int z :: [])) (shr_at hn16)) ?_
              refine lv_if_ne (x := 0) (tgt := 262) hx hb dL_areGoods_245 (by decide) (fun k => absurd (by decide) k) (fun _ => ?_)
              refine lv_iload hx hb dL_areGoods_248 (lv_at hl 5 rfl) ?_
              refine lv_iload hx hb dL_areGoods_250 (lv_at hl 0 rfl) ?_
              refine lv_ishr hx hb (x := (nI (sAt F n k (F 7 k)))) (y := (nI k)) dL_areGoods_252 ?_
              refine lv_iconst (v := 1) hx hb dL_areGoods_253 (by decide) ?_
              refine lv_iand hx hb (x := ((nI (sAt F n k (F 7 k))) >>> ((nI k) &&& 31))) (y := 1) dL_areGoods_254 ?_
              refine W.eq (g2 := F0 m9 255 ls (.int 0 :: [])) (congrArg (fun z => F0 m9 255 ls (Value.int z :: [])) (at_self hn16 c_33)) ?_
              refine lv_if_ne (x := 0) (tgt := 262) hx hb dL_areGoods_255 (by decide) (fun k => absurd (by decide) k) (fun _ => ?_)
              refine lv_iconst (v := 1) hx hb dL_areGoods_258 (by decide) ?_
              refine lv_goto (tgt := 263) hx hb dL_areGoods_259 (by decide) ?_
              refine lv_istore (lv' := [(7, .int 1), (8, .int (nI k)), (5, .int (nI (cB F n k))), (6, .int (nI (cM F (k + 1)))), (9, .int (F 7 k)), (10, .int (nI (sAt F n k (F 7 k)))), (11, .int (bi (brd F k (F 7 k)))), (0, .ref (q 9)), (1, .ref qt), (2, .ref qo), (3, .ref qg), (4, .ref qm)]) hx hb dL_areGoods_263 hl (by decide) rfl (fun ls hl => ?_)
              refine lv_iconst (v := 0) hx hb dL_areGoods_265 (by decide) ?_
              refine lv_istore (lv' := [(12, .int 0), (7, .int 1), (8, .int (nI k)), (5, .int (nI (cB F n k))), (6, .int (nI (cM F (k + 1)))), (9, .int (F 7 k)), (10, .int (nI (sAt F n k (F 7 k)))), (11, .int (bi (brd F k (F 7 k)))), (0, .ref (q 9)), (1, .ref qt), (2, .ref qo), (3, .ref qg), (4, .ref qm)]) hx hb dL_areGoods_266 hl (by decide) rfl (fun ls hl => ?_)
              have L268 : ∀ (d9 : Nat) (j : Nat) (H : Heap) (locs : List Loc) (ls : Array Slot), n - j < d9 → (j ≤ n) → va_P D vwCl (wX q F (nI n) R cI cZ ++ [(qt, .inl (cI, 64, .inl (T))), (qo, .inl (cI, 30, .inl (M))), (qg, .inl (cI, 48, .inl (G))), (qm, .inl (cI, 1, .inl (C)))]) H → va_S nA s.heap H locs → lv_has ls 15 [(12, .int (nI j)), (5, .int (nI (cB F n k + cR F k j))), (7, .int 1), (0, .ref (q 9)), (1, .ref qt), (2, .ref qo), (3, .ref qg), (4, .ref qm), (6, .int (nI (cM F (k + 1)))), (8, .int (nI k)), (9, .int (F 7 k)), (10, .int (nI (sAt F n k (F 7 k))))] → W p9 l e9 ({ frames := 7, cells := 0, slots := 0, locals := 177 }) s m9 a9 below meth c9 H locs (0) (0) (MQ below (RO (fun r => r = 1)) a9 s 0 0 nA) (F0 m9 268 ls []) := by
                intro d9
                induction d9 with
                | zero => intro j H locs ls h9; exact absurd h9 (Nat.not_lt_zero _)
                | succ d9 ih268 =>
                  intro j H locs ls hd268 hj hP hS hl
                  refine lv_iload hx hb dL_areGoods_268 (lv_at hl 0 rfl) ?_
                  refine lv_aload hx hb dL_areGoods_270 (lv_at hl 7 rfl) ?_
                  refine lv_iconst (v := 0) hx hb dL_areGoods_272 (by decide) ?_
                  refine xiald (g := 0) hx hb hK hP 13 0 rfl rfl (by omega) (by decide) dL_areGoods_273 ?_
                  refine W.eq (g2 := F0 m9 274 ls (.int (nI n) :: [.int (nI j)])) (congrArg (fun z => F0 m9 274 ls (Value.int z :: [.int (nI j)])) (hm)) ?_
                  refine lv_icmp_ge (x := (nI j)) (y := (nI n)) (tgt := 443) hx hb dL_areGoods_274 (by decide) (fun c_274 => ?_) (fun c_274 => ?_)
                  · have c_274 := nl_ge (k := j) (n := n) c_274 (by omega) (by omega)
                    refine lv_iinc (v := (nI (k + 1))) (lv' := [(8, .int (nI (k + 1))), (12, .int (nI j)), (5, .int (nI (cB F n k + cR F k j))), (7, .int 1), (0, .ref (q 9)), (1, .ref qt), (2, .ref qo), (3, .ref qg), (4, .ref qm), (6, .int (nI (cM F (k + 1)))), (9, .int (F 7 k)), (10, .int (nI (sAt F n k (F 7 k))))]) hx hb dL_areGoods_443 hl (k := 9) rfl (nI_add k 1) (by decide) rfl (fun ls hl => ?_)
                    refine lv_goto (tgt := 27) hx hb dL_areGoods_446 (by decide) ?_
                    have e5 : (nI (cB F n k + cR F k j)) = (nI (cB F n (k + 1))) := by rw [show j = n by omega]; rfl
                    have hl : lv_has ls 15 [(8, .int (nI (k + 1))), (12, .int (nI j)), (5, .int (nI (cB F n (k + 1)))), (7, .int 1), (0, .ref (q 9)), (1, .ref qt), (2, .ref qo), (3, .ref qg), (4, .ref qm), (6, .int (nI (cM F (k + 1)))), (9, .int (F 7 k)), (10, .int (nI (sAt F n k (F 7 k))))] := by rw [← e5]; exact hl
                    exact ih27 (k + 1) _ _ _ (by omega) (by omega) hP hS (lv_sub hl [0, 2, 9, 3, 4, 5, 6, 7, 8] rfl)
                  · have c_274 := nl_lt (k := j) (n := n) c_274 (by omega) (by omega)
                    refine lv_iload hx hb dL_areGoods_277 (lv_at hl 2 rfl) ?_
                    refine lv_if_eq (x := 1) (tgt := 443) hx hb dL_areGoods_279 (by decide) (fun k => absurd k (by decide)) (fun _ => ?_)
                    refine lv_aload_n hx hb dL_areGoods_282 rfl (lv_at hl 3 rfl) ?_
                    refine lv_iload hx hb dL_areGoods_283 (lv_at hl 0 rfl) ?_
                    refine ro_V (As := [.int (nI j)]) (rest := []) ⟨hx, hb, hml, hown, hts⟩ (v_placeOf l D q F n R cI cZ j hw c_274) (cwV 1 hts gL_areGoods_X0_placeOf rfl rfl rfl (by decide +kernel) ⟨Nat.le_of_ble_eq_true rfl, Nat.le_of_ble_eq_true rfl⟩) hK hP (hP.sub [0, 1, 2, 3, 4, 5, 6, 7, 8, 9] rfl) (va_recv hK hP (ci := 0) (q0 := 0) rfl rfl) hS rfl hl.1 rfl (Nat.le_of_ble_eq_true rfl) dL_areGoods_285 ⟨Nat.le_of_ble_eq_true rfl, Nat.le_of_ble_eq_true rfl⟩ (fun r9 H locs h_285 hP hS => ?_)
                    obtain rfl := h_285
                    refine lv_istore (lv' := [(13, .int (F 7 j)), (12, .int (nI j)), (5, .int (nI (cB F n k + cR F k j))), (7, .int 1), (0, .ref (q 9)), (1, .ref qt), (2, .ref qo), (3, .ref qg), (4, .ref qm), (6, .int (nI (cM F (k + 1)))), (8, .int (nI k)), (9, .int (F 7 k)), (10, .int (nI (sAt F n k (F 7 k))))]) hx hb dL_areGoods_288 hl (by decide) rfl (fun ls hl => ?_)
                    have J333 : ∀  (H : Heap) (locs : List Loc) (ls : Array Slot), va_P D vwCl (wX q F (nI n) R cI cZ ++ [(qt, .inl (cI, 64, .inl (T))), (qo, .inl (cI, 30, .inl (M))), (qg, .inl (cI, 48, .inl (G))), (qm, .inl (cI, 1, .inl (C)))]) H → va_S nA s.heap H locs → lv_has ls 15 [(12, .int (nI j)), (5, .int (nI (cB F n k + cR F k j))), (7, .int 1), (0, .ref (q 9)), (1, .ref qt), (2, .ref qo), (3, .ref qg), (4, .ref qm), (6, .int (nI (cM F (k + 1)))), (8, .int (nI k)), (9, .int (F 7 k)), (10, .int (nI (sAt F n k (F 7 k)))), (13, .int (F 7 j))] → W p9 l e9 ({ frames := 7, cells := 0, slots := 0, locals := 177 }) s m9 a9 below meth c9 H locs (0) (0) (MQ below (RO (fun r => r = 1)) a9 s 0 0 nA) (F0 m9 333 ls [.int (bi (qS F k j))]) := by
                      intro  H locs ls  hP hS hl
                      refine lv_istore (lv' := [(14, .int (bi (qS F k j))), (12, .int (nI j)), (5, .int (nI (cB F n k + cR F k j))), (7, .int 1), (0, .ref (q 9)), (1, .ref qt), (2, .ref qo), (3, .ref qg), (4, .ref qm), (6, .int (nI (cM F (k + 1)))), (8, .int (nI k)), (9, .int (F 7 k)), (10, .int (nI (sAt F n k (F 7 k)))), (13, .int (F 7 j))]) hx hb dL_areGoods_333 hl (by decide) rfl (fun ls hl => ?_)
                      refine lv_iload hx hb dL_areGoods_335 (lv_at hl 2 rfl) ?_
                      refine lv_iload hx hb dL_areGoods_337 (lv_at hl 0 rfl) ?_
                      refine bmerge (B := (qS F k j)) (t1 := 346) (t2 := 347) hx hb dL_areGoods_339 (by decide) dL_areGoods_342 dL_areGoods_343 (by decide) dL_areGoods_346 rfl ?_
                      refine lv_iadd hx hb (x := (nI (cB F n k + cR F k j))) (y := (bi (qS F k j))) dL_areGoods_347 ?_
                      refine W.eq (g2 := F0 m9 348 ls (.int (nI (cB F n k + cR F k (j + 1))) :: [])) (congrArg (fun z => F0 m9 348 ls (Value.int z :: [])) (by rw [bi_add, Nat.add_assoc]; rfl)) ?_
                      refine lv_istore (lv' := [(5, .int (nI (cB F n k + cR F k (j + 1)))), (14, .int (bi (qS F k j))), (12, .int (nI j)), (7, .int 1), (0, .ref (q 9)), (1, .ref qt), (2, .ref qo), (3, .ref qg), (4, .ref qm), (6, .int (nI (cM F (k + 1)))), (8, .int (nI k)), (9, .int (F 7 k)), (10, .int (nI (sAt F n k (F 7 k)))), (13, .int (F 7 j))]) hx hb dL_areGoods_348 hl (by decide) rfl (fun ls hl => ?_)
                      refine lv_iload hx hb dL_areGoods_350 (lv_at hl 12 rfl) ?_
                      refine lv_iload hx hb dL_areGoods_352 (lv_at hl 2 rfl) ?_
                      refine lv_ishr hx hb (x := (nI (sAt F n k (F 7 k)))) (y := (nI j)) dL_areGoods_354 ?_
                      refine lv_iconst (v := 1) hx hb dL_areGoods_355 (by decide) ?_
                      refine lv_iand hx hb (x := ((nI (sAt F n k (F 7 k))) >>> ((nI j) &&& 31))) (y := 1) dL_areGoods_356 ?_
                      refine W.eq (g2 := F0 m9 357 ls (.int (bi (qS F k j)) :: [])) (congrArg (fun z => F0 m9 357 ls (Value.int z :: [])) (at_bit hn16 c_274)) ?_
                      refine lv_iload hx hb dL_areGoods_357 (lv_at hl 1 rfl) ?_
                      refine bmerge (B := (qS F k j)) (t1 := 366) (t2 := 367) hx hb dL_areGoods_359 (by decide) dL_areGoods_362 dL_areGoods_363 (by decide) dL_areGoods_366 rfl ?_
                      refine lv_icmp_ne (x := (bi (qS F k j))) (y := (bi (qS F k j))) (tgt := 434) hx hb dL_areGoods_367 (by decide) (fun k => (k rfl : False).elim) (fun c_367 => ?_)
                      refine lv_iload hx hb dL_areGoods_370 (lv_at hl 2 rfl) ?_
                      refine lv_iload hx hb dL_areGoods_372 (lv_at hl 10 rfl) ?_
                      refine lv_icmp_eq (x := (nI j)) (y := (nI k)) (tgt := 430) hx hb dL_areGoods_374 (by decide) (fun c_374 => ?_) (fun c_374 => ?_)
                      · have c_374 := nq_eq (k := j) (n := k) c_374 (by omega) (by omega)
                        refine lv_iconst (v := 1) hx hb dL_areGoods_430 (by decide) ?_
                        refine lv_goto (tgt := 435) hx hb dL_areGoods_431 (by decide) ?_
                        refine lv_istore (lv' := [(7, .int 1), (5, .int (nI (cB F n k + cR F k (j + 1)))), (14, .int (bi (qS F k j))), (12, .int (nI j)), (0, .ref (q 9)), (1, .ref qt), (2, .ref qo), (3, .ref qg), (4, .ref qm), (6, .int (nI (cM F (k + 1)))), (8, .int (nI k)), (9, .int (F 7 k)), (10, .int (nI (sAt F n k (F 7 k)))), (13, .int (F 7 j))]) hx hb dL_areGoods_435 hl (by decide) rfl (fun ls hl => ?_)
                        refine lv_iinc (v := (nI (j + 1))) (lv' := [(12, .int (nI (j + 1))), (7, .int 1), (5, .int (nI (cB F n k + cR F k (j + 1)))), (14, .int (bi (qS F k j))), (0, .ref (q 9)), (1, .ref qt), (2, .ref qo), (3, .ref qg), (4, .ref qm), (6, .int (nI (cM F (k + 1)))), (8, .int (nI k)), (9, .int (F 7 k)), (10, .int (nI (sAt F n k (F 7 k)))), (13, .int (F 7 j))]) hx hb dL_areGoods_437 hl (k := 3) rfl (nI_add j 1) (by decide) rfl (fun ls hl => ?_)
                        refine lv_goto (tgt := 268) hx hb dL_areGoods_440 (by decide) ?_
                        exact ih268 (j + 1) _ _ _ (by omega) (by omega) hP hS (lv_sub hl [0, 2, 1, 4, 5, 6, 7, 8, 9, 10, 11, 12] rfl)
                      · have c_374 := nq_ne (k := j) (n := k) c_374 (by omega) (by omega)
                        refine lv_aload_n hx hb dL_areGoods_377 rfl (lv_at hl 4 rfl) ?_
                        refine lv_iload hx hb dL_areGoods_378 (lv_at hl 10 rfl) ?_
                        refine lv_iload hx hb dL_areGoods_380 (lv_at hl 2 rfl) ?_
                        refine ro_V (As := [.int (nI k), .int (nI j)]) (rest := []) ⟨hx, hb, hml, hown, hts⟩ (v_areInBreach l D q F n R cI cZ k j hw c_33 c_274 (fun e => c_374 e.symm)) (cwV 2 hts gL_areGoods_X0_areInBreach rfl rfl rfl (by decide +kernel) ⟨Nat.le_of_ble_eq_true rfl, Nat.le_of_ble_eq_true rfl⟩) hK hP (hP.sub [0, 1, 2, 3, 4, 5, 6, 7, 8, 9] rfl) (va_recv hK hP (ci := 0) (q0 := 0) rfl rfl) hS rfl hl.1 rfl (Nat.le_of_ble_eq_true rfl) dL_areGoods_382 ⟨Nat.le_of_ble_eq_true rfl, Nat.le_of_ble_eq_true rfl⟩ (fun r9 H locs h_382 hP hS => ?_)
                        obtain rfl := h_382
                        refine lv_iload hx hb dL_areGoods_385 (lv_at hl 1 rfl) ?_
                        refine lv_icmp_ne (x := (bi (sBreach F k (F 7 k) j))) (y := (bi (qS F k j))) (tgt := 434) hx hb dL_areGoods_387 (by decide) (fun k => (k (congrArg bi (by unfold qS; rw [if_neg c_374])) : False).elim) (fun c_387 => ?_)
                        refine lv_aload_n hx hb dL_areGoods_390 rfl (lv_at hl 4 rfl) ?_
                        refine lv_iload hx hb dL_areGoods_391 (lv_at hl 10 rfl) ?_
                        refine lv_iload hx hb dL_areGoods_393 (lv_at hl 2 rfl) ?_
                        refine ro_V (As := [.int (nI k), .int (nI j)]) (rest := []) ⟨hx, hb, hml, hown, hts⟩ (v_need l D q F n R cI cZ k j hw c_33 c_274 (fun e => c_374 e.symm)) (cwV 2 hts gL_areGoods_X0_need rfl rfl rfl (by decide +kernel) ⟨Nat.le_of_ble_eq_true rfl, Nat.le_of_ble_eq_true rfl⟩) hK hP (hP.sub [0, 1, 2, 3, 4, 5, 6, 7, 8, 9] rfl) (va_recv hK hP (ci := 0) (q0 := 0) rfl rfl) hS rfl hl.1 rfl (Nat.le_of_ble_eq_true rfl) dL_areGoods_395 ⟨Nat.le_of_ble_eq_true rfl, Nat.le_of_ble_eq_true rfl⟩ (fun r9 H locs h_395 hP hS => ?_)
                        obtain rfl := h_395
                        refine lv_aload_n hx hb dL_areGoods_398 rfl (lv_at hl 5 rfl) ?_
                        refine lv_aload_n hx hb dL_areGoods_399 rfl (lv_at hl 6 rfl) ?_
                        refine lv_aload_n hx hb dL_areGoods_400 rfl (lv_at hl 7 rfl) ?_
                        refine lv_iload hx hb dL_areGoods_401 (lv_at hl 10 rfl) ?_
                        refine lv_iload hx hb dL_areGoods_403 (lv_at hl 2 rfl) ?_
                        refine ro_SW (As := [.ref qt, .ref qo, .ref qg, .int (nI k), .int (nI j)]) (rest := [.int (sNeed F k j)]) ⟨hx, hb, hml, hown, hts⟩ (c_L_need l D cI cZ qt (T) qo (M) qg (G) k j (F := F) (n := n) hw hv c_33 c_274) (va_cwS 5 hts gL_areGoods_L_need rfl rfl rfl (by decide +kernel) ⟨Nat.le_of_ble_eq_true rfl, Nat.le_of_ble_eq_true rfl⟩) hK hP (hP.sub [10, 11, 12] rfl) hS rfl hl.1 rfl (Nat.le_of_ble_eq_true rfl) dL_areGoods_405 ⟨Nat.le_of_ble_eq_true rfl, Nat.le_of_ble_eq_true rfl⟩ (fun r9 H locs h_405 hP hS => ?_)
                        obtain rfl := h_405
                        refine lv_icmp_ne (x := (sNeed F k j)) (y := (sNeed F k j)) (tgt := 434) hx hb dL_areGoods_408 (by decide) (fun k => (k rfl : False).elim) (fun c_408 => ?_)
                        refine lv_aload_n hx hb dL_areGoods_411 rfl (lv_at hl 4 rfl) ?_
                        refine lv_iload hx hb dL_areGoods_412 (lv_at hl 2 rfl) ?_
                        refine lv_iload hx hb dL_areGoods_414 (lv_at hl 10 rfl) ?_
                        refine ro_V (As := [.int (nI j), .int (nI k)]) (rest := []) ⟨hx, hb, hml, hown, hts⟩ (v_need l D q F n R cI cZ j k hw c_274 c_33 c_374) (cwV 2 hts gL_areGoods_X0_need rfl rfl rfl (by decide +kernel) ⟨Nat.le_of_ble_eq_true rfl, Nat.le_of_ble_eq_true rfl⟩) hK hP (hP.sub [0, 1, 2, 3, 4, 5, 6, 7, 8, 9] rfl) (va_recv hK hP (ci := 0) (q0 := 0) rfl rfl) hS rfl hl.1 rfl (Nat.le_of_ble_eq_true rfl) dL_areGoods_416 ⟨Nat.le_of_ble_eq_true rfl, Nat.le_of_ble_eq_true rfl⟩ (fun r9 H locs h_416 hP hS => ?_)
                        obtain rfl := h_416
                        refine lv_aload_n hx hb dL_areGoods_419 rfl (lv_at hl 4 rfl) ?_
                        refine lv_iload hx hb dL_areGoods_420 (lv_at hl 10 rfl) ?_
                        refine lv_iload hx hb dL_areGoods_422 (lv_at hl 2 rfl) ?_
                        refine ro_V (As := [.int (nI k), .int (nI j)]) (rest := [.int (sNeed F j k)]) ⟨hx, hb, hml, hown, hts⟩ (v_need l D q F n R cI cZ k j hw c_33 c_274 (fun e => c_374 e.symm)) (cwV 2 hts gL_areGoods_X0_need rfl rfl rfl (by decide +kernel) ⟨Nat.le_of_ble_eq_true rfl, Nat.le_of_ble_eq_true rfl⟩) hK hP (hP.sub [0, 1, 2, 3, 4, 5, 6, 7, 8, 9] rfl) (va_recv hK hP (ci := 0) (q0 := 0) rfl rfl) hS rfl hl.1 rfl (Nat.le_of_ble_eq_true rfl) dL_areGoods_424 ⟨Nat.le_of_ble_eq_true rfl, Nat.le_of_ble_eq_true rfl⟩ (fun r9 H locs h_424 hP hS => ?_)
                        obtain rfl := h_424
                        refine lv_icmp_ne (x := (sNeed F j k)) (y := (sNeed F k j)) (tgt := 434) hx hb dL_areGoods_427 (by decide) (fun k => (k (need_sym hw hs c_274 c_33) : False).elim) (fun c_427 => ?_)
                        refine lv_iconst (v := 1) hx hb dL_areGoods_430 (by decide) ?_
                        refine lv_goto (tgt := 435) hx hb dL_areGoods_431 (by decide) ?_
                        refine lv_istore (lv' := [(7, .int 1), (5, .int (nI (cB F n k + cR F k (j + 1)))), (14, .int (bi (qS F k j))), (12, .int (nI j)), (0, .ref (q 9)), (1, .ref qt), (2, .ref qo), (3, .ref qg), (4, .ref qm), (6, .int (nI (cM F (k + 1)))), (8, .int (nI k)), (9, .int (F 7 k)), (10, .int (nI (sAt F n k (F 7 k)))), (13, .int (F 7 j))]) hx hb dL_areGoods_435 hl (by decide) rfl (fun ls hl => ?_)
                        refine lv_iinc (v := (nI (j + 1))) (lv' := [(12, .int (nI (j + 1))), (7, .int 1), (5, .int (nI (cB F n k + cR F k (j + 1)))), (14, .int (bi (qS F k j))), (0, .ref (q 9)), (1, .ref qt), (2, .ref qo), (3, .ref qg), (4, .ref qm), (6, .int (nI (cM F (k + 1)))), (8, .int (nI k)), (9, .int (F 7 k)), (10, .int (nI (sAt F n k (F 7 k)))), (13, .int (F 7 j))]) hx hb dL_areGoods_437 hl (k := 3) rfl (nI_add j 1) (by decide) rfl (fun ls hl => ?_)
                        refine lv_goto (tgt := 268) hx hb dL_areGoods_440 (by decide) ?_
                        exact ih268 (j + 1) _ _ _ (by omega) (by omega) hP hS (lv_sub hl [0, 2, 1, 4, 5, 6, 7, 8, 9, 10, 11, 12] rfl)
                    refine lv_iload hx hb dL_areGoods_290 (lv_at hl 1 rfl) ?_
                    refine lv_iload hx hb dL_areGoods_292 (lv_at hl 10 rfl) ?_
                    refine lv_icmp_eq (x := (nI j)) (y := (nI k)) (tgt := 332) hx hb dL_areGoods_294 (by decide) (fun c_294 => ?_) (fun c_294 => ?_)
                    · have c_294 := nq_eq (k := j) (n := k) c_294 (by omega) (by omega)
                      refine lv_iconst (v := 0) hx hb dL_areGoods_332 (by decide) ?_
                      refine W.eq (g2 := F0 m9 333 ls (.int (bi (qS F k j)) :: [])) (congrArg (fun z => F0 m9 333 ls (Value.int z :: [])) (qs_1 c_294)) ?_
                      exact J333  _ _ _  hP hS (lv_sub hl [1, 2, 3, 4, 5, 6, 7, 8, 9, 10, 11, 12, 0] rfl)
                    · have c_294 := nq_ne (k := j) (n := k) c_294 (by omega) (by omega)
                      refine lv_iload hx hb dL_areGoods_297 (lv_at hl 11 rfl) ?_
                      refine lv_if_lt (x := (F 7 k)) (tgt := 332) hx hb dL_areGoods_299 (by decide) (fun c_299 => ?_) (fun c_299 => ?_)
                      · skip
                        refine lv_iconst (v := 0) hx hb dL_areGoods_332 (by decide) ?_
                        refine W.eq (g2 := F0 m9 333 ls (.int (bi (qS F k j)) :: [])) (congrArg (fun z => F0 m9 333 ls (Value.int z :: [])) (qs_2 (j := j) (hw.p7 c_33) c_299)) ?_
                        exact J333  _ _ _  hP hS (lv_sub hl [1, 2, 3, 4, 5, 6, 7, 8, 9, 10, 11, 12, 0] rfl)
                      · skip
                        refine lv_iload hx hb dL_areGoods_302 (lv_at hl 0 rfl) ?_
                        refine lv_if_lt (x := (F 7 j)) (tgt := 332) hx hb dL_areGoods_304 (by decide) (fun c_304 => ?_) (fun c_304 => ?_)
                        · skip
                          refine lv_iconst (v := 0) hx hb dL_areGoods_332 (by decide) ?_
                          refine W.eq (g2 := F0 m9 333 ls (.int (bi (qS F k j)) :: [])) (congrArg (fun z => F0 m9 333 ls (Value.int z :: [])) (qs_3 (k := k) (hw.p7 c_274) c_304)) ?_
                          exact J333  _ _ _  hP hS (lv_sub hl [1, 2, 3, 4, 5, 6, 7, 8, 9, 10, 11, 12, 0] rfl)
                        · skip
                          refine lv_aload_n hx hb dL_areGoods_307 rfl (lv_at hl 4 rfl) ?_
                          refine lv_iload hx hb dL_areGoods_308 (lv_at hl 11 rfl) ?_
                          refine lv_iload hx hb dL_areGoods_310 (lv_at hl 0 rfl) ?_
                          refine ro_V (As := [.int (F 7 k), .int (F 7 j)]) (rest := []) ⟨hx, hb, hml, hown, hts⟩ (v_distance l D q F n R cI cZ (F 7 k) (F 7 j) (okP_nn (hw.p7 c_33) c_299) (okP_nn (hw.p7 c_274) c_304)) (cwV 2 hts gL_areGoods_X0_distance rfl rfl rfl (by decide +kernel) ⟨Nat.le_of_ble_eq_true rfl, Nat.le_of_ble_eq_true rfl⟩) hK hP (hP.sub [0, 1, 2, 3, 4, 5, 6, 7, 8, 9] rfl) (va_recv hK hP (ci := 0) (q0 := 0) rfl rfl) hS rfl hl.1 rfl (Nat.le_of_ble_eq_true rfl) dL_areGoods_312 ⟨Nat.le_of_ble_eq_true rfl, Nat.le_of_ble_eq_true rfl⟩ (fun r9 H locs h_312 hP hS => ?_)
                          obtain rfl := h_312
                          refine lv_aload_n hx hb dL_areGoods_315 rfl (lv_at hl 5 rfl) ?_
                          refine lv_aload_n hx hb dL_areGoods_316 rfl (lv_at hl 6 rfl) ?_
                          refine lv_aload_n hx hb dL_areGoods_317 rfl (lv_at hl 7 rfl) ?_
                          refine lv_iload hx hb dL_areGoods_318 (lv_at hl 10 rfl) ?_
                          refine lv_iload hx hb dL_areGoods_320 (lv_at hl 1 rfl) ?_
                          refine ro_SW (As := [.ref qt, .ref qo, .ref qg, .int (nI k), .int (nI j)]) (rest := [.int (sDist (F 7 k) (F 7 j))]) ⟨hx, hb, hml, hown, hts⟩ (c_L_need l D cI cZ qt (T) qo (M) qg (G) k j (F := F) (n := n) hw hv c_33 c_274) (va_cwS 5 hts gL_areGoods_L_need rfl rfl rfl (by decide +kernel) ⟨Nat.le_of_ble_eq_true rfl, Nat.le_of_ble_eq_true rfl⟩) hK hP (hP.sub [10, 11, 12] rfl) hS rfl hl.1 rfl (Nat.le_of_ble_eq_true rfl) dL_areGoods_322 ⟨Nat.le_of_ble_eq_true rfl, Nat.le_of_ble_eq_true rfl⟩ (fun r9 H locs h_322 hP hS => ?_)
                          obtain rfl := h_322
                          refine lv_icmp_ge (x := (sDist (F 7 k) (F 7 j))) (y := (sNeed F k j)) (tgt := 332) hx hb dL_areGoods_325 (by decide) (fun c_325 => ?_) (fun c_325 => ?_)
                          · skip
                            refine lv_iconst (v := 0) hx hb dL_areGoods_332 (by decide) ?_
                            refine W.eq (g2 := F0 m9 333 ls (.int (bi (qS F k j)) :: [])) (congrArg (fun z => F0 m9 333 ls (Value.int z :: [])) (qs_4 (hw.p7 c_274) (hw.p7 c_33) c_299 c_304 c_325)) ?_
                            exact J333  _ _ _  hP hS (lv_sub hl [1, 2, 3, 4, 5, 6, 7, 8, 9, 10, 11, 12, 0] rfl)
                          · skip
                            refine lv_iconst (v := 1) hx hb dL_areGoods_328 (by decide) ?_
                            refine lv_goto (tgt := 333) hx hb dL_areGoods_329 (by decide) ?_
                            refine W.eq (g2 := F0 m9 333 ls (.int (bi (qS F k j)) :: [])) (congrArg (fun z => F0 m9 333 ls (Value.int z :: [])) (qs_5 (hw.p7 c_274) (hw.p7 c_33) c_294 c_299 c_304 c_325)) ?_
                            exact J333  _ _ _  hP hS (lv_sub hl [1, 2, 3, 4, 5, 6, 7, 8, 9, 10, 11, 12, 0] rfl)
              have e5 : (nI (cB F n k)) = (nI (cB F n k + cR F k 0)) := rfl
              have hl : lv_has ls 15 [(12, .int 0), (7, .int 1), (8, .int (nI k)), (5, .int (nI (cB F n k + cR F k 0))), (6, .int (nI (cM F (k + 1)))), (9, .int (F 7 k)), (10, .int (nI (sAt F n k (F 7 k)))), (11, .int (bi (brd F k (F 7 k)))), (0, .ref (q 9)), (1, .ref qt), (2, .ref qo), (3, .ref qg), (4, .ref qm)] := by rw [← e5]; exact hl
              exact L268 _ 0 _ _ _ (Nat.lt_succ_self _) (by omega) hP hS (lv_sub hl [0, 3, 1, 8, 9, 10, 11, 12, 4, 2, 5, 6] rfl)
            refine lv_iload hx hb dL_areGoods_216 (lv_at hl 6 rfl) ?_
            refine lv_if_eq (x := (bi (brd F k (F 7 k)))) (tgt := 234) hx hb dL_areGoods_218 (by decide) (fun c_218 => ?_) (fun c_218 => ?_)
            · have c_218 := bi_e0.mp c_218
              refine lv_iconst (v := 0) hx hb dL_areGoods_234 (by decide) ?_
              refine W.eq (g2 := F0 m9 235 ls (.int (bi (sMis F k (F 7 k))) :: [.int (bi (sMis F k (F 7 k)))])) (congrArg (fun z => F0 m9 235 ls (Value.int z :: [.int (bi (sMis F k (F 7 k)))])) (mis_0 c_218)) ?_
              exact J235  _ _ _  hP hS (lv_sub hl [0, 1, 2, 3, 4, 5, 6, 7, 8, 9, 10, 11] rfl)
            · have c_218 := bi_n0.mp c_218
              refine lv_aload_n hx hb dL_areGoods_221 rfl (lv_at hl 7 rfl) ?_
              refine lv_iload hx hb dL_areGoods_222 (lv_at hl 0 rfl) ?_
              refine ro_V (As := [.int (nI k)]) (rest := [.int (bi (sMis F k (F 7 k)))]) ⟨hx, hb, hml, hown, hts⟩ (v_isExcepted l D q F n R cI cZ k hw c_33) (cwV 1 hts gL_areGoods_X0_isExcepted rfl rfl rfl (by decide +kernel) ⟨Nat.le_of_ble_eq_true rfl, Nat.le_of_ble_eq_true rfl⟩) hK hP (hP.sub [0, 1, 2, 3, 4, 5, 6, 7, 8, 9] rfl) (va_recv hK hP (ci := 0) (q0 := 0) rfl rfl) hS rfl hl.1 rfl (Nat.le_of_ble_eq_true rfl) dL_areGoods_224 ⟨Nat.le_of_ble_eq_true rfl, Nat.le_of_ble_eq_true rfl⟩ (fun r9 H locs h_224 hP hS => ?_)
              obtain rfl := h_224
              refine bmergeN (B := (sExc F k)) (t1 := 234) (t2 := 235) hx hb dL_areGoods_227 (by decide) dL_areGoods_230 dL_areGoods_231 (by decide) dL_areGoods_234 rfl ?_
              refine W.eq (g2 := F0 m9 235 ls (.int (bi (sMis F k (F 7 k))) :: [.int (bi (sMis F k (F 7 k)))])) (congrArg (fun z => F0 m9 235 ls (Value.int z :: [.int (bi (sMis F k (F 7 k)))])) (mis_1 c_218)) ?_
              exact J235  _ _ _  hP hS (lv_sub hl [0, 1, 2, 3, 4, 5, 6, 7, 8, 9, 10, 11] rfl)
          refine lv_aload_n hx hb dL_areGoods_182 rfl (lv_at hl 7 rfl) ?_
          refine lv_iload hx hb dL_areGoods_183 (lv_at hl 2 rfl) ?_
          refine ro_V (As := [.int (nI k)]) (rest := [.int (bi (sLim F k))]) ⟨hx, hb, hml, hown, hts⟩ (v_isExcepted l D q F n R cI cZ k hw c_33) (cwV 1 hts gL_areGoods_X0_isExcepted rfl rfl rfl (by decide +kernel) ⟨Nat.le_of_ble_eq_true rfl, Nat.le_of_ble_eq_true rfl⟩) hK hP (hP.sub [0, 1, 2, 3, 4, 5, 6, 7, 8, 9] rfl) (va_recv hK hP (ci := 0) (q0 := 0) rfl rfl) hS rfl hl.1 rfl (Nat.le_of_ble_eq_true rfl) dL_areGoods_185 ⟨Nat.le_of_ble_eq_true rfl, Nat.le_of_ble_eq_true rfl⟩ (fun r9 H locs h_185 hP hS => ?_)
          obtain rfl := h_185
          refine lv_if_ne (x := (bi (sExc F k))) (tgt := 206) hx hb dL_areGoods_188 (by decide) (fun c_188 => ?_) (fun c_188 => ?_)
          · have c_188 := bi_n0.mp c_188
            refine lv_iconst (v := 0) hx hb dL_areGoods_206 (by decide) ?_
            refine W.eq (g2 := F0 m9 207 ls (.int (bi (sLim F k)) :: [.int (bi (sLim F k))])) (congrArg (fun z => F0 m9 207 ls (Value.int z :: [.int (bi (sLim F k))])) (lim_0 c_188)) ?_
            exact J207  _ _ _  hP hS (lv_sub hl [2, 3, 0, 4, 5, 6, 1, 7, 8, 9, 10, 11] rfl)
          · have c_188 := bi_e0.mp c_188
            refine lv_aload_n hx hb dL_areGoods_191 rfl (lv_at hl 10 rfl) ?_
            refine lv_aload_n hx hb dL_areGoods_192 rfl (lv_at hl 9 rfl) ?_
            refine lv_iload hx hb dL_areGoods_193 (lv_at hl 2 rfl) ?_
            refine lv_iconst (v := 0) hx hb dL_areGoods_195 (by decide) ?_
            refine ro_SW (As := [.ref qg, .ref qo, .int (nI k), .int 0]) (rest := [.int (bi (sLim F k))]) ⟨hx, hb, hml, hown, hts⟩ (c_L_isWithin_0 l D cI cZ qg (G) qo (M) k (F := F) (n := n) (T := T) hw hv c_33) (va_cwS 4 hts gL_areGoods_L_isWithin rfl rfl rfl (by decide +kernel) ⟨Nat.le_of_ble_eq_true rfl, Nat.le_of_ble_eq_true rfl⟩) hK hP (hP.sub [12, 11] rfl) hS rfl hl.1 rfl (Nat.le_of_ble_eq_true rfl) dL_areGoods_196 ⟨Nat.le_of_ble_eq_true rfl, Nat.le_of_ble_eq_true rfl⟩ (fun r9 H locs h_196 hP hS => ?_)
            obtain rfl := h_196
            refine bmerge (B := (sWithin F 1 k)) (t1 := 206) (t2 := 207) hx hb dL_areGoods_199 (by decide) dL_areGoods_202 dL_areGoods_203 (by decide) dL_areGoods_206 rfl ?_
            refine W.eq (g2 := F0 m9 207 ls (.int (bi (sLim F k)) :: [.int (bi (sLim F k))])) (congrArg (fun z => F0 m9 207 ls (Value.int z :: [.int (bi (sLim F k))])) (lim_1 c_188)) ?_
            exact J207  _ _ _  hP hS (lv_sub hl [2, 3, 0, 4, 5, 6, 1, 7, 8, 9, 10, 11] rfl)
        refine lv_iload hx hb dL_areGoods_57 (lv_at hl 1 rfl) ?_
        refine lv_if_lt (x := (F 7 k)) (tgt := 123) hx hb dL_areGoods_59 (by decide) (fun c_59 => ?_) (fun c_59 => ?_)
        · have hp9 : F 7 k = -1 := (okP_neg (hw.p7 c_33)).mp c_59
          refine lv_iconst (v := 0) hx hb dL_areGoods_123 (by decide) ?_
          refine W.eq (g2 := F0 m9 124 ls (.int (bi (brd F k (F 7 k))) :: [])) (congrArg (fun z => F0 m9 124 ls (Value.int z :: [])) (brd_a hp9)) ?_
          exact J124  _ _ _  hP hS (lv_sub hl [2, 3, 4, 5, 1, 0, 6, 7, 8, 9, 10] rfl)
        · obtain ⟨pl, hpl, ep⟩ := okP_k (hw.p7 c_33) (fun e => c_59 ((okP_neg (hw.p7 c_33)).mpr e))
          obtain ⟨c, hc1, hc2, ec⟩ := hw.cls c_33
          refine lv_aload_n hx hb dL_areGoods_62 rfl (lv_at hl 8 rfl) ?_
          refine lv_bipush (v := 20) hx hb dL_areGoods_63 (by decide) ?_
          refine lv_aload_n hx hb dL_areGoods_65 rfl (lv_at hl 9 rfl) ?_
          refine lv_iconst (v := 3) hx hb dL_areGoods_66 (by decide) ?_
          refine lv_iload hx hb dL_areGoods_67 (lv_at hl 2 rfl) ?_
          refine lv_imul hx hb (x := 3) (y := (nI k)) dL_areGoods_69 ?_
          refine W.eq (g2 := F0 m9 70 ls (.int (nI (3 * k)) :: [.ref qg, .int 20, .ref qo])) (congrArg (fun z => F0 m9 70 ls (Value.int z :: [.ref qg, .int 20, .ref qo])) (pk_mul 3 k)) ?_
          refine xiald (g := (3 * k)) hx hb hK hP 12 0 rfl rfl (by omega) (by decide) dL_areGoods_70 ?_
          refine W.eq (g2 := F0 m9 71 ls (.int (nI c) :: [.int 20, .ref qo])) (congrArg (fun z => F0 m9 71 ls (Value.int z :: [.int 20, .ref qo])) ((hv.g0 c_33).trans ec)) ?_
          refine lv_iadd hx hb (x := 20) (y := (nI c)) dL_areGoods_71 ?_
          refine W.eq (g2 := F0 m9 72 ls (.int (nI (20 + c)) :: [.ref qo])) (congrArg (fun z => F0 m9 72 ls (Value.int z :: [.ref qo])) (nI_add 20 c)) ?_
          refine xiald (g := (20 + c)) hx hb hK hP 11 0 rfl rfl (by omega) (by decide) dL_areGoods_72 ?_
          refine lv_iload hx hb dL_areGoods_73 (lv_at hl 1 rfl) ?_
          refine W.eq (g2 := F0 m9 75 ls (.int (nI pl) :: [.int (M (20 + c))])) (congrArg (fun z => F0 m9 75 ls (Value.int z :: [.int (M (20 + c))])) (ep)) ?_
          refine lv_iconst (v := 2) hx hb dL_areGoods_75 (by decide) ?_
          refine lv_irem hx hb (x := (nI pl)) (y := 2) dL_areGoods_76 (by decide) ?_
          refine W.eq (g2 := F0 m9 77 ls (.int (nI (pl % 2)) :: [.int (M (20 + c))])) (congrArg (fun z => F0 m9 77 ls (Value.int z :: [.int (M (20 + c))])) (pk_rem (a := pl) (d := 2) (by omega) (by omega) (by omega))) ?_
          refine lv_ishr hx hb (x := (M (20 + c))) (y := (nI (pl % 2))) dL_areGoods_77 ?_
          refine lv_iconst (v := 1) hx hb dL_areGoods_78 (by decide) ?_
          refine lv_iand hx hb (x := ((M (20 + c)) >>> ((nI (pl % 2)) &&& 31))) (y := 1) dL_areGoods_79 ?_
          refine W.eq (g2 := F0 m9 80 ls (.int (F 3 (c * 2 + pl % 2)) :: [])) (congrArg (fun z => F0 m9 80 ls (Value.int z :: [])) (hv.d hc1 hc2 (by omega))) ?_
          refine lv_iconst (v := 1) hx hb dL_areGoods_80 (by decide) ?_
          refine lv_icmp_eq (x := (F 3 (c * 2 + pl % 2))) (y := 1) (tgt := 119) hx hb dL_areGoods_81 (by decide) (fun c_81 => ?_) (fun c_81 => ?_)
          · skip
            refine lv_iconst (v := 1) hx hb dL_areGoods_119 (by decide) ?_
            refine lv_goto (tgt := 124) hx hb dL_areGoods_120 (by decide) ?_
            refine W.eq (g2 := F0 m9 124 ls (.int (bi (brd F k (F 7 k))) :: [])) (congrArg (fun z => F0 m9 124 ls (Value.int z :: [])) (brd_b ec hc2 hpl ep c_81)) ?_
            exact J124  _ _ _  hP hS (lv_sub hl [2, 3, 4, 5, 1, 0, 6, 7, 8, 9, 10] rfl)
          · skip
            refine lv_aload_n hx hb dL_areGoods_84 rfl (lv_at hl 9 rfl) ?_
            refine lv_iconst (v := 3) hx hb dL_areGoods_85 (by decide) ?_
            refine lv_iload hx hb dL_areGoods_86 (lv_at hl 2 rfl) ?_
            refine lv_imul hx hb (x := 3) (y := (nI k)) dL_areGoods_88 ?_
            refine W.eq (g2 := F0 m9 89 ls (.int (nI (3 * k)) :: [.ref qg])) (congrArg (fun z => F0 m9 89 ls (Value.int z :: [.ref qg])) (pk_mul 3 k)) ?_
            refine lv_iconst (v := 1) hx hb dL_areGoods_89 (by decide) ?_
            refine lv_iadd hx hb (x := (nI (3 * k))) (y := 1) dL_areGoods_90 ?_
            refine W.eq (g2 := F0 m9 91 ls (.int (nI ((3 * k) + 1)) :: [.ref qg])) (congrArg (fun z => F0 m9 91 ls (Value.int z :: [.ref qg])) (nI_add (3 * k) 1)) ?_
            refine xiald (g := ((3 * k) + 1)) hx hb hK hP 12 0 rfl rfl (by omega) (by decide) dL_areGoods_91 ?_
            refine W.eq (g2 := F0 m9 92 ls (.int (gs F k) :: [])) (congrArg (fun z => F0 m9 92 ls (Value.int z :: [])) (hv.g1 c_33)) ?_
            refine lv_if_le (x := (gs F k)) (tgt := 123) hx hb dL_areGoods_92 (by decide) (fun c_92 => ?_) (fun c_92 => ?_)
            · have e5 : F 5 k = -1 := gs_le hw c_33 c_92
              refine lv_iconst (v := 0) hx hb dL_areGoods_123 (by decide) ?_
              refine W.eq (g2 := F0 m9 124 ls (.int (bi (brd F k (F 7 k))) :: [])) (congrArg (fun z => F0 m9 124 ls (Value.int z :: [])) (brd_c hw ec hc2 hpl ep c_81 e5)) ?_
              exact J124  _ _ _  hP hS (lv_sub hl [2, 3, 4, 5, 1, 0, 6, 7, 8, 9, 10] rfl)
            · obtain ⟨d, hd1, hd2, e5, eg⟩ := gs_n hw c_33 (fun e => c_92 (by rw [e]; exact Int32.le_refl 0))
              refine lv_aload_n hx hb dL_areGoods_95 rfl (lv_at hl 8 rfl) ?_
              refine lv_bipush (v := 20) hx hb dL_areGoods_96 (by decide) ?_
              refine lv_aload_n hx hb dL_areGoods_98 rfl (lv_at hl 9 rfl) ?_
              refine lv_iconst (v := 3) hx hb dL_areGoods_99 (by decide) ?_
              refine lv_iload hx hb dL_areGoods_100 (lv_at hl 2 rfl) ?_
              refine lv_imul hx hb (x := 3) (y := (nI k)) dL_areGoods_102 ?_
              refine W.eq (g2 := F0 m9 103 ls (.int (nI (3 * k)) :: [.ref qg, .int 20, .ref qo])) (congrArg (fun z => F0 m9 103 ls (Value.int z :: [.ref qg, .int 20, .ref qo])) (pk_mul 3 k)) ?_
              refine lv_iconst (v := 1) hx hb dL_areGoods_103 (by decide) ?_
              refine lv_iadd hx hb (x := (nI (3 * k))) (y := 1) dL_areGoods_104 ?_
              refine W.eq (g2 := F0 m9 105 ls (.int (nI ((3 * k) + 1)) :: [.ref qg, .int 20, .ref qo])) (congrArg (fun z => F0 m9 105 ls (Value.int z :: [.ref qg, .int 20, .ref qo])) (nI_add (3 * k) 1)) ?_
              refine xiald (g := ((3 * k) + 1)) hx hb hK hP 12 0 rfl rfl (by omega) (by decide) dL_areGoods_105 ?_
              refine W.eq (g2 := F0 m9 106 ls (.int (nI d) :: [.int 20, .ref qo])) (congrArg (fun z => F0 m9 106 ls (Value.int z :: [.int 20, .ref qo])) ((hv.g1 c_33).trans eg)) ?_
              refine lv_iadd hx hb (x := 20) (y := (nI d)) dL_areGoods_106 ?_
              refine W.eq (g2 := F0 m9 107 ls (.int (nI (20 + d)) :: [.ref qo])) (congrArg (fun z => F0 m9 107 ls (Value.int z :: [.ref qo])) (nI_add 20 d)) ?_
              refine xiald (g := (20 + d)) hx hb hK hP 11 0 rfl rfl (by omega) (by decide) dL_areGoods_107 ?_
              refine lv_iload hx hb dL_areGoods_108 (lv_at hl 1 rfl) ?_
              refine W.eq (g2 := F0 m9 110 ls (.int (nI pl) :: [.int (M (20 + d))])) (congrArg (fun z => F0 m9 110 ls (Value.int z :: [.int (M (20 + d))])) (ep)) ?_
              refine lv_iconst (v := 2) hx hb dL_areGoods_110 (by decide) ?_
              refine lv_irem hx hb (x := (nI pl)) (y := 2) dL_areGoods_111 (by decide) ?_
              refine W.eq (g2 := F0 m9 112 ls (.int (nI (pl % 2)) :: [.int (M (20 + d))])) (congrArg (fun z => F0 m9 112 ls (Value.int z :: [.int (M (20 + d))])) (pk_rem (a := pl) (d := 2) (by omega) (by omega) (by omega))) ?_
              refine lv_ishr hx hb (x := (M (20 + d))) (y := (nI (pl % 2))) dL_areGoods_112 ?_
              refine lv_iconst (v := 1) hx hb dL_areGoods_113 (by decide) ?_
              refine lv_iand hx hb (x := ((M (20 + d)) >>> ((nI (pl % 2)) &&& 31))) (y := 1) dL_areGoods_114 ?_
              refine W.eq (g2 := F0 m9 115 ls (.int (F 3 (d * 2 + pl % 2)) :: [])) (congrArg (fun z => F0 m9 115 ls (Value.int z :: [])) (hv.d hd1 hd2 (by omega))) ?_
              refine lv_iconst (v := 1) hx hb dL_areGoods_115 (by decide) ?_
              refine lv_icmp_ne (x := (F 3 (d * 2 + pl % 2))) (y := 1) (tgt := 123) hx hb dL_areGoods_116 (by decide) (fun c_116 => ?_) (fun c_116 => ?_)
              · skip
                refine lv_iconst (v := 0) hx hb dL_areGoods_123 (by decide) ?_
                refine W.eq (g2 := F0 m9 124 ls (.int (bi (brd F k (F 7 k))) :: [])) (congrArg (fun z => F0 m9 124 ls (Value.int z :: [])) (brd_e hw ec hc2 hpl ep c_81 e5 hd2 c_116)) ?_
                exact J124  _ _ _  hP hS (lv_sub hl [2, 3, 4, 5, 1, 0, 6, 7, 8, 9, 10] rfl)
              · skip
                refine lv_iconst (v := 1) hx hb dL_areGoods_119 (by decide) ?_
                refine lv_goto (tgt := 124) hx hb dL_areGoods_120 (by decide) ?_
                refine W.eq (g2 := F0 m9 124 ls (.int (bi (brd F k (F 7 k))) :: [])) (congrArg (fun z => F0 m9 124 ls (Value.int z :: [])) (brd_d hw ec hc2 hpl ep c_81 e5 hd2 c_116)) ?_
                exact J124  _ _ _  hP hS (lv_sub hl [2, 3, 4, 5, 1, 0, 6, 7, 8, 9, 10] rfl)
  exact L27 _ 0 _ _ _ (Nat.lt_succ_self _) (by omega) hP hS (lv_sub hl [0, 3, 2, 1, 4, 5, 6, 7, 8] rfl)

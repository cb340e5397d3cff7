/-! THE LAW, from its entry -/
set_option maxHeartbeats 8000000 in
set_option maxRecDepth 100000 in
theorem whole_start {p9 : Program} {e9 : Env} {s : State} {m9 : MethodId} {below : List Frame} {meth : Method} {c9 : Code} (l : Launch) (hflags : l.flags = flags0) {b L : Nat} {xs : Nat → Int32} (hL : L ≤ 260) (C0 : lw_At p9 s m9 meth c9 b L xs) : W p9 l e9 room_1 s m9 #[Value.ref b] below meth c9 s.heap [] 0 0 (lw_Z below #[Value.ref b] s) (entryFrame m9 ([Value.ref b] : List Value).toArray 17) := by
  obtain ⟨hx, hb, hr, hml, hown0, hts0, hX, hbl, hlocks, hgv⟩ := id C0
  have hfl : l.stackTraces = false := by unfold Launch.stackTraces; rw [hflags]; decide
  have htA : tBA (aL s) s := tBA_start hts0 hgv
  have hn9 : nC s := nC_start hgv
  have hown : s.vm.findClass RL = some m9.cls := hown0
  have hts : ∀ w ∈ wsL_law, w.before #[Value.ref b] s = true := fun w h => hts0 w (wsL_law_in w h)
  have hA : ∀ q : Nat, s.heap.size ≤ q → aL s q := fun _ h => h
  have kI0 := hts0 (.instantiable RX0 10) (by decide +kernel)
  obtain ⟨c0, iS0, hKn0⟩ := u_known (C := RX0) (T := TX0) (N := 10) (n := 10) hts0 inX0 kI0
  obtain ⟨D, hKc⟩ : ∃ D : va_G, ∀ (k : Nat) (q : vw_C), vwCl[k]? = some q → u_Kn s q.1 q.2.1 q.2.2 (D.1 k) (D.2 k) := by
    refine ⟨(fun _ => c0, fun _ => iS0), ?_⟩
    intro k q hq
    match k, hq with
    | 0, hq => cases hq; exact hKn0
    | k + 1, hq => simp [vwCl] at hq
  have hS : va_S (aL s) s.heap s.heap [] := va_S.rf
  have hK : va_K D vwCl [] s := ⟨hKc, fun k q h => by simp at h⟩
  have hP : va_P D vwCl [] s.heap := fun k q h => by simp at h
  have hD : va_D (aL s) [] := ⟨fun i j p q h => by simp at h, fun k q h => by simp at h⟩
  have hl := lv_entry ([.ref b]) (n := 17) (Nat.le_of_ble_eq_true rfl)
  rw [lg_entry_eq]
  generalize (lg_sl ([.ref b]) ++ List.replicate (17 - (lg_sl ([.ref b])).length) Slot.unset).toArray = ls at hl ⊢
  have hl : lv_has ls 17 [(0, .ref b)] := hl
  refine va_new (ci := 0) (fs := [.null, .null, .null, .null, .null, .null, .null, .null, .int 0, .null]) (C := RX0) (T := TX0) (N := 10) hx hb hts0 inX0 tyX0 tyX0_ok hown (hts0 (.classLink RL 10 RX0) (by decide +kernel)) kI0 (hts0 (.initialized RX0) (by decide +kernel)) hK hP hD hS hA rfl (fun j hj => by rcases (show j = 0 ∨ j = 1 ∨ j = 2 ∨ j = 3 ∨ j = 4 ∨ j = 5 ∨ j = 6 ∨ j = 7 ∨ j = 8 ∨ j = 9 by omega) with rfl | rfl | rfl | rfl | rfl | rfl | rfl | rfl | rfl | rfl <;> rfl) (Nat.le_of_ble_eq_true rfl) (Nat.le_of_ble_eq_true rfl) dL_law_0 (fun h0 H hP hD hS => ?_)
  have hP : va_P D vwCl [(h0, .inr (0, [.null, .null, .null, .null, .null, .null, .null, .null, .int 0, .null]))] H := hP
  have hD : va_D (aL s) [(h0, .inr (0, [.null, .null, .null, .null, .null, .null, .null, .null, .int 0, .null]))] := hD
  refine W.widen (k := 1) (n := 10) (by omega) (by omega) ?_
  refine lv_dup hx hb dL_law_3 rfl ?_
  have hFc := va_free (wc := [(h0, .inr (0, [.null, .null, .null, .null, .null, .null, .null, .null, .int 0, .null]))]) hD hS hA [0] rfl
  refine va_callv (A1 := va_A [(h0, .inr (0, [.null, .null, .null, .null, .null, .null, .null, .null, .int 0, .null]))] H.size) (va_runI (As := []) (rest := [.ref h0]) ⟨hx, hb, hml, hown, hts⟩ (c_X0_init l D h0 H.size) (cwI 0 hts gL_law_X0_init rfl rfl rfl (hts0 (.initialized RX0) (by decide +kernel)) (hts0 (.methodLink RL 130 yX0_init) (by decide +kernel)) (hts0 (.instanceMethod yX0_init) (by decide +kernel)) rfl (by decide +kernel) ⟨Nat.le_of_ble_eq_true rfl, Nat.le_of_ble_eq_true rfl⟩) ⟨wS_blind, fun U hU hW => ⟨rfl, by rw [hU], ⟨by rw [hU]; exact hP, hK.moved hW.alike⟩, hD.weaken (fun _ _ _ _ => trivial)⟩⟩ rfl rfl hl.1 rfl (lv_room (Nat.le_of_ble_eq_true rfl)) dL_law_4 ⟨Nat.le_of_ble_eq_true rfl, Nat.le_of_ble_eq_true rfl⟩) hS (fun q _ h => hFc q h) hFc (fun u t H1 locs1 ht1 hvm hw hB hz1 hk1 hS => ?_)
  obtain ⟨q, cI, cZ⟩ := u
  obtain ⟨eq9, hP1, hK1, hD1⟩ := hB
  rw [ht1] at hP1
  have hK1 := va_K.moved hvm.symm hK1
  have eq9 : q 9 = h0 := eq9
  obtain ⟨hP, hD⟩ := va_join (wr := []) (w1 := wX q (fun _ _ => 0) (nI 0) (fun _ => 0) cI cZ) hP hD [0] [] rfl rfl (by decide) (by decide) hk1 hFc hP1 hD1
  have hPn : va_P D vwCl (wX q (fun _ _ => 0) (nI 0) (fun _ => 0) cI cZ) H1 := hP
  have hDn : va_D (aL s) (wX q (fun _ _ => 0) (nI 0) (fun _ => 0) cI cZ) := hD
  have hK : va_K D vwCl (tIZ cI cZ) s := hK1
  subst eq9
  have hP := hPn
  have hD := hDn
  clear hPn hDn
  refine W.widen (k := 10) (n := 230) (by omega) (by omega) ?_
  refine lv_astore_n (lv' := [(1, .ref (q 9)), (0, .ref b)]) hx hb dL_law_7 rfl hl (by decide) rfl (fun ls hl => ?_)
  refine lv_bipush (v := 64) hx hb dL_law_8 (by decide) ?_
  refine va_newa (atype := .int) (ty := .int) (a0 := (64, .inl (fun _ => 0))) (N' := 64) hx hb (hts (.arrayClass .int) (by decide +kernel)) rfl hK hP hD hS hA (fun _ => rfl) (by decide) (by decide) (by decide) (Nat.le_of_ble_eq_true rfl) (Nat.le_of_ble_eq_true rfl) dL_law_10 (fun qt cA H hK9 hP hD hS => ?_)
  obtain rfl : cI = cA := ra_eq (hK9.2 0 _ rfl).2 (hK9.2 2 _ rfl).2
  clear hK9
  have hP : va_P D vwCl (wX q (fun _ _ => 0) (nI 0) (fun _ => 0) cI cZ ++ [(qt, .inl (cI, 64, .inl (fun _ => 0)))]) H := hP
  have hD : va_D (aL s) (wX q (fun _ _ => 0) (nI 0) (fun _ => 0) cI cZ ++ [(qt, .inl (cI, 64, .inl (fun _ => 0)))]) := hD
  refine lv_astore_n (lv' := [(2, .ref qt), (1, .ref (q 9)), (0, .ref b)]) hx hb dL_law_12 rfl hl (by decide) rfl (fun ls hl => ?_)
  refine lv_bipush (v := 30) hx hb dL_law_13 (by decide) ?_
  refine va_newa (atype := .int) (ty := .int) (a0 := (30, .inl (fun _ => 0))) (N' := 30) hx hb (hts (.arrayClass .int) (by decide +kernel)) rfl hK hP hD hS hA (fun _ => rfl) (by decide) (by decide) (by decide) (Nat.le_of_ble_eq_true rfl) (Nat.le_of_ble_eq_true rfl) dL_law_15 (fun qo cA H hK9 hP hD hS => ?_)
  obtain rfl : cI = cA := ra_eq (hK9.2 0 _ rfl).2 (hK9.2 2 _ rfl).2
  clear hK9
  have hP : va_P D vwCl (wX q (fun _ _ => 0) (nI 0) (fun _ => 0) cI cZ ++ [(qt, .inl (cI, 64, .inl (fun _ => 0))), (qo, .inl (cI, 30, .inl (fun _ => 0)))]) H := hP
  have hD : va_D (aL s) (wX q (fun _ _ => 0) (nI 0) (fun _ => 0) cI cZ ++ [(qt, .inl (cI, 64, .inl (fun _ => 0))), (qo, .inl (cI, 30, .inl (fun _ => 0)))]) := hD
  refine lv_astore_n (lv' := [(3, .ref qo), (2, .ref qt), (1, .ref (q 9)), (0, .ref b)]) hx hb dL_law_17 rfl hl (by decide) rfl (fun ls hl => ?_)
  refine lv_bipush (v := 48) hx hb dL_law_18 (by decide) ?_
  refine va_newa (atype := .int) (ty := .int) (a0 := (48, .inl (fun _ => 0))) (N' := 48) hx hb (hts (.arrayClass .int) (by decide +kernel)) rfl hK hP hD hS hA (fun _ => rfl) (by decide) (by decide) (by decide) (Nat.le_of_ble_eq_true rfl) (Nat.le_of_ble_eq_true rfl) dL_law_20 (fun qg cA H hK9 hP hD hS => ?_)
  obtain rfl : cI = cA := ra_eq (hK9.2 0 _ rfl).2 (hK9.2 2 _ rfl).2
  clear hK9
  have hP : va_P D vwCl (wX q (fun _ _ => 0) (nI 0) (fun _ => 0) cI cZ ++ [(qt, .inl (cI, 64, .inl (fun _ => 0))), (qo, .inl (cI, 30, .inl (fun _ => 0))), (qg, .inl (cI, 48, .inl (fun _ => 0)))]) H := hP
  have hD : va_D (aL s) (wX q (fun _ _ => 0) (nI 0) (fun _ => 0) cI cZ ++ [(qt, .inl (cI, 64, .inl (fun _ => 0))), (qo, .inl (cI, 30, .inl (fun _ => 0))), (qg, .inl (cI, 48, .inl (fun _ => 0)))]) := hD
  refine lv_astore (lv' := [(4, .ref qg), (3, .ref qo), (2, .ref qt), (1, .ref (q 9)), (0, .ref b)]) hx hb dL_law_22 hl (by decide) rfl (fun ls hl => ?_)
  refine lv_iconst (v := 1) hx hb dL_law_24 (by decide) ?_
  refine va_newa (atype := .int) (ty := .int) (a0 := (1, .inl (fun _ => 0))) (N' := 1) hx hb (hts (.arrayClass .int) (by decide +kernel)) rfl hK hP hD hS hA (fun _ => rfl) (by decide) (by decide) (by decide) (Nat.le_of_ble_eq_true rfl) (Nat.le_of_ble_eq_true rfl) dL_law_25 (fun qm cA H hK9 hP hD hS => ?_)
  obtain rfl : cI = cA := ra_eq (hK9.2 0 _ rfl).2 (hK9.2 2 _ rfl).2
  clear hK9
  have hP : va_P D vwCl (wX q (fun _ _ => 0) (nI 0) (fun _ => 0) cI cZ ++ [(qt, .inl (cI, 64, .inl (fun _ => 0))), (qo, .inl (cI, 30, .inl (fun _ => 0))), (qg, .inl (cI, 48, .inl (fun _ => 0))), (qm, .inl (cI, 1, .inl (fun _ => 0)))]) H := hP
  have hD : va_D (aL s) (wX q (fun _ _ => 0) (nI 0) (fun _ => 0) cI cZ ++ [(qt, .inl (cI, 64, .inl (fun _ => 0))), (qo, .inl (cI, 30, .inl (fun _ => 0))), (qg, .inl (cI, 48, .inl (fun _ => 0))), (qm, .inl (cI, 1, .inl (fun _ => 0)))]) := hD
  refine lv_astore (lv' := [(5, .ref qm), (4, .ref qg), (3, .ref qo), (2, .ref qt), (1, .ref (q 9)), (0, .ref b)]) hx hb dL_law_27 hl (by decide) rfl (fun ls hl => ?_)
  refine lv_aload_n hx hb dL_law_29 rfl (lv_at hl 4 rfl) ?_
  refine ro_V (As := []) (rest := []) ⟨hx, hb, hml, hown, hts⟩ (c_X0_isClean l D q (fun _ _ => 0) 0 (fun _ => 0) cI cZ wf_0) (cwV 0 hts gL_law_X0_isClean rfl rfl rfl (by decide +kernel) ⟨Nat.le_of_ble_eq_true rfl, Nat.le_of_ble_eq_true rfl⟩) hK hP (hP.sub [0, 1, 2, 3, 4, 5, 6, 7, 8, 9] rfl) (va_recv hK hP (ci := 0) (q0 := 0) rfl rfl) hS rfl hl.1 rfl (Nat.le_of_ble_eq_true rfl) dL_law_30 ⟨Nat.le_of_ble_eq_true rfl, Nat.le_of_ble_eq_true rfl⟩ (fun r9 H locs h_30 hP hS => ?_)
  obtain rfl := h_30
  refine W.eq (g2 := F0 m9 33 ls (.int 1 :: [])) (congrArg (fun z => F0 m9 33 ls (Value.int z :: [])) (rfl)) ?_
  refine lv_if_eq (x := 1) (tgt := 60) hx hb dL_law_33 (by decide) (fun k => absurd k (by decide)) (fun _ => ?_)
  refine lv_aload_n hx hb dL_law_36 rfl (lv_at hl 4 rfl) ?_
  refine lv_aload hx hb dL_law_37 (lv_at hl 0 rfl) ?_
  refine lv_iconst (v := 0) hx hb dL_law_39 (by decide) ?_
  refine la_S (As := [.ref (q 9), .ref qm, .int 0]) (rest := []) (wr := [(qt, .inl (cI, 64, .inl (fun _ => 0))), (qo, .inl (cI, 30, .inl (fun _ => 0))), (qg, .inl (cI, 48, .inl (fun _ => 0)))]) ⟨hx, hb, hml, hown, hts⟩ (c_L_isRefused l hfl D q (fun _ _ => 0) 0 (fun _ => 0) cI cZ qm (fun _ => 0) _ 0 wf_0 rfl (by decide) (by decide)) (va_cwS 3 hts gL_law_L_isRefused rfl rfl rfl (by decide +kernel) ⟨Nat.le_of_ble_eq_true rfl, Nat.le_of_ble_eq_true rfl⟩) hn9 htA hK hP hD hA [0, 1, 2, 3, 4, 5, 6, 7, 8, 9, 13] [10, 11, 12] rfl rfl (by decide) rfl (by decide) (by decide) hS rfl hl.1 rfl (Nat.le_of_ble_eq_true rfl) dL_law_40 ⟨Nat.le_of_ble_eq_true rfl, Nat.le_of_ble_eq_true rfl⟩ (fun r9 R_40 H locs h_40 hP hD hS => ?_)
  obtain rfl := h_40
  have hP : va_P D vwCl (wX q (fun _ _ => 0) (nI 0) R_40 cI cZ ++ [(qt, .inl (cI, 64, .inl (fun _ => 0))), (qo, .inl (cI, 30, .inl (fun _ => 0))), (qg, .inl (cI, 48, .inl (fun _ => 0))), (qm, .inl (cI, 1, .inl (fun _ => 0)))]) H := hP.sub [3, 4, 5, 6, 7, 8, 9, 10, 11, 12, 0, 1, 2, 13] rfl
  have hD : va_D (aL s) (wX q (fun _ _ => 0) (nI 0) R_40 cI cZ ++ [(qt, .inl (cI, 64, .inl (fun _ => 0))), (qo, .inl (cI, 30, .inl (fun _ => 0))), (qg, .inl (cI, 48, .inl (fun _ => 0))), (qm, .inl (cI, 1, .inl (fun _ => 0)))]) := hD.sub [3, 4, 5, 6, 7, 8, 9, 10, 11, 12, 0, 1, 2, 13] (by decide) rfl
  refine lv_if_eq (x := 1) (tgt := 60) hx hb dL_law_43 (by decide) (fun k => absurd k (by decide)) (fun _ => ?_)
  refine lv_aload_n hx hb dL_law_46 rfl (lv_at hl 4 rfl) ?_
  refine lv_aload hx hb dL_law_47 (lv_at hl 0 rfl) ?_
  refine lv_iconst (v := 1) hx hb dL_law_49 (by decide) ?_
  refine la_S (As := [.ref (q 9), .ref qm, .int 1]) (rest := []) (wr := [(qt, .inl (cI, 64, .inl (fun _ => 0))), (qo, .inl (cI, 30, .inl (fun _ => 0))), (qg, .inl (cI, 48, .inl (fun _ => 0)))]) ⟨hx, hb, hml, hown, hts⟩ (c_L_isRefused l hfl D q (fun _ _ => 0) 0 R_40 cI cZ qm (fun _ => 0) _ 1 wf_0 rfl (by decide) (by decide)) (va_cwS 3 hts gL_law_L_isRefused rfl rfl rfl (by decide +kernel) ⟨Nat.le_of_ble_eq_true rfl, Nat.le_of_ble_eq_true rfl⟩) hn9 htA hK hP hD hA [0, 1, 2, 3, 4, 5, 6, 7, 8, 9, 13] [10, 11, 12] rfl rfl (by decide) rfl (by decide) (by decide) hS rfl hl.1 rfl (Nat.le_of_ble_eq_true rfl) dL_law_50 ⟨Nat.le_of_ble_eq_true rfl, Nat.le_of_ble_eq_true rfl⟩ (fun r9 R_50 H locs h_50 hP hD hS => ?_)
  obtain rfl := h_50
  have hP : va_P D vwCl (wX q (fun _ _ => 0) (nI 0) R_50 cI cZ ++ [(qt, .inl (cI, 64, .inl (fun _ => 0))), (qo, .inl (cI, 30, .inl (fun _ => 0))), (qg, .inl (cI, 48, .inl (fun _ => 0))), (qm, .inl (cI, 1, .inl (fun _ => 0)))]) H := hP.sub [3, 4, 5, 6, 7, 8, 9, 10, 11, 12, 0, 1, 2, 13] rfl
  have hD : va_D (aL s) (wX q (fun _ _ => 0) (nI 0) R_50 cI cZ ++ [(qt, .inl (cI, 64, .inl (fun _ => 0))), (qo, .inl (cI, 30, .inl (fun _ => 0))), (qg, .inl (cI, 48, .inl (fun _ => 0))), (qm, .inl (cI, 1, .inl (fun _ => 0)))]) := hD.sub [3, 4, 5, 6, 7, 8, 9, 10, 11, 12, 0, 1, 2, 13] (by decide) rfl
  refine lv_if_eq (x := 1) (tgt := 60) hx hb dL_law_53 (by decide) (fun k => absurd k (by decide)) (fun _ => ?_)
  refine lv_iconst (v := 1) hx hb dL_law_56 (by decide) ?_
  refine lv_goto (tgt := 61) hx hb dL_law_57 (by decide) ?_
  refine lv_istore (lv' := [(6, .int 1), (5, .ref qm), (4, .ref qg), (3, .ref qo), (2, .ref qt), (1, .ref (q 9)), (0, .ref b)]) hx hb dL_law_61 hl (by decide) rfl (fun ls hl => ?_)
  refine lv_iconst (v := 0) hx hb dL_law_63 (by decide) ?_
  refine lv_istore (lv' := [(7, .int 0), (6, .int 1), (5, .ref qm), (4, .ref qg), (3, .ref qo), (2, .ref qt), (1, .ref (q 9)), (0, .ref b)]) hx hb dL_law_64 hl (by decide) rfl (fun ls hl => ?_)
  refine W.widen (k := 700 + 320 * 0) (n := 4000 + 1900 * 0) (by omega) (by omega) ?_
  exact law_loop hL hfl C0 htA hn9 hK 71 0 (by omega) (by omega) (fun _ _ => 0) 0 _ (fun _ => 0) (fun _ => 0) (fun _ => 0) (fun _ => 0) _ _ _ wf_0 sy_0 iv_0 rfl hP hD hS (lv_sub hl [0, 1, 7, 6, 5, 4, 3, 2] rfl)

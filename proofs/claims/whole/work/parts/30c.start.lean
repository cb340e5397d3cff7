/-! THE LAW, from its entry -/
set_option maxHeartbeats 4000000 in
set_option maxRecDepth 100000 in
theorem whole_start {p : Program} {e : Env} {s : State} {m : MethodId} {below : List Frame} {meth : Method} {c : Code} (l : Launch) (hflags : l.flags = flags0) {b L : Nat} {xs : Nat → Int32} (hL : L ≤ 2048) (C0 : lw_At p s m meth c b L xs) : W p l e room_1 s m #[Value.ref b] below meth c s.heap [] 0 0 (lw_Z below #[Value.ref b] s) (entryFrame m ([Value.ref b] : List Value).toArray 7) := by
  obtain ⟨hx, hb, hr, hml, hown0, hts0, hX, hbl, hlocks, hgv⟩ := id C0
  have hfl : l.stackTraces = false := by unfold Launch.stackTraces; rw [hflags]; decide
  have ht : tB s := tB_start hts0 hgv
  have hn9 : nC s := nC_start hgv
  have hown : s.vm.findClass RL = some m.cls := hown0
  have hts : ∀ w ∈ wsL_law, w.before #[Value.ref b] s = true := fun w h => hts0 w (wsL_law_in w h)
  have hA : ∀ q : Nat, s.heap.size ≤ q → aL s q := fun _ h => h
  have kI0 := hts0 (.instantiable RX0 10) (by decide +kernel)
  have kI1 := hts0 (.instantiable RX1 11) (by decide +kernel)
  obtain ⟨c0, iS0, hKn0⟩ := u_known (C := RX0) (T := TX0) (N := 10) (n := 10) hts0 inX0 kI0
  obtain ⟨c1, iS1, hKn1⟩ := u_known (C := RX1) (T := TX1) (N := 11) (n := 11) hts0 inX1 kI1
  obtain ⟨D, hKc⟩ : ∃ D : va_G, ∀ (k : Nat) (q : vw_C), vwCl[k]? = some q → u_Kn s q.1 q.2.1 q.2.2 (D.1 k) (D.2 k) := by
    refine ⟨(fun k => if k = 0 then c0 else c1, fun k => if k = 0 then iS0 else iS1), ?_⟩
    intro k q hq
    match k, hq with
    | 0, hq => cases hq; exact hKn0
    | 1, hq => cases hq; exact hKn1
    | k + 2, hq => simp [vwCl] at hq
  have hS : va_S (aL s) s.heap s.heap [] := va_S.rf
  have hK : va_K D vwCl [] s := ⟨hKc, fun k q h => by simp at h⟩
  have hP : va_P D vwCl [] s.heap := fun k q h => by simp at h
  have hD : va_D (aL s) [] := ⟨fun i j p q h => by simp at h, fun k q h => by simp at h⟩
  have hl := lv_entry ([.ref b]) (n := 7) (Nat.le_of_ble_eq_true rfl)
  rw [lg_entry_eq]
  generalize (lg_sl ([.ref b]) ++ List.replicate (7 - (lg_sl ([.ref b])).length) Slot.unset).toArray = ls at hl ⊢
  have hl : lv_has ls 7 [(0, .ref b)] := hl
  refine va_new (ci := 0) (fs := [.null, .null, .null, .null, .null, .null, .null, .null, .int 0, .null]) (C := RX0) (T := TX0) (N := 10) hx hb hts0 inX0 tyX0 tyX0_ok hown (hts0 (.classLink RL 8 RX0) (by decide +kernel)) kI0 (hts0 (.initialized RX0) (by decide +kernel)) hK hP hD hS hA rfl (fun j hj => by rcases (show j = 0 ∨ j = 1 ∨ j = 2 ∨ j = 3 ∨ j = 4 ∨ j = 5 ∨ j = 6 ∨ j = 7 ∨ j = 8 ∨ j = 9 by omega) with rfl | rfl | rfl | rfl | rfl | rfl | rfl | rfl | rfl | rfl <;> rfl) (Nat.le_of_ble_eq_true rfl) (Nat.le_of_ble_eq_true rfl) dL_law_0 (fun h0 H hP hD hS => ?_)
  have hP : va_P D vwCl [(h0, .inr (0, [.null, .null, .null, .null, .null, .null, .null, .null, .int 0, .null]))] H := hP
  have hD : va_D (aL s) [(h0, .inr (0, [.null, .null, .null, .null, .null, .null, .null, .null, .int 0, .null]))] := hD
  refine W.widen (k := 1) (n := 10) (by omega) (by omega) ?_
  refine lv_dup hx hb dL_law_3 rfl ?_
  have hFc := va_free (wc := [(h0, .inr (0, [.null, .null, .null, .null, .null, .null, .null, .null, .int 0, .null]))]) hD hS hA [0] rfl
  refine va_callv (A1 := va_A [(h0, .inr (0, [.null, .null, .null, .null, .null, .null, .null, .null, .int 0, .null]))] H.size) (va_runI (As := []) (rest := [.ref h0]) ⟨hx, hb, hml, hown, hts⟩ (c_X0_init l D h0 H.size) (cwI 0 hts gL_law_X0_init rfl rfl rfl (hts0 (.initialized RX0) (by decide +kernel)) (hts0 (.methodLink RL 70 yX0_init) (by decide +kernel)) (hts0 (.instanceMethod yX0_init) (by decide +kernel)) rfl (by decide +kernel) ⟨Nat.le_of_ble_eq_true rfl, Nat.le_of_ble_eq_true rfl⟩) ⟨wS_blind, fun U hU hW => ⟨rfl, by rw [hU], ⟨by rw [hU]; exact hP, hK.moved hW.alike⟩, hD.weaken (fun _ _ _ _ => trivial)⟩⟩ rfl rfl hl.1 rfl (lv_room (Nat.le_of_ble_eq_true rfl)) dL_law_4 ⟨Nat.le_of_ble_eq_true rfl, Nat.le_of_ble_eq_true rfl⟩) hS (fun q _ h => hFc q h) hFc (fun u t H1 locs1 ht1 hvm hw hB hz1 hk1 hS => ?_)
  obtain ⟨qx, cI, cZ⟩ := u
  obtain ⟨e9, hP1, hK1, hD1⟩ := hB
  rw [ht1] at hP1
  have hK1 := va_K.moved hvm.symm hK1
  have e9 : qx 9 = h0 := e9
  obtain ⟨hP, hD⟩ := va_join (wr := []) (w1 := wX qx (fun _ _ => 0) (nI 0) (fun _ => 0) cI cZ) hP hD [0] [] rfl rfl (by decide) (by decide) hk1 hFc hP1 hD1
  have hPn : va_P D vwCl (wX qx (fun _ _ => 0) (nI 0) (fun _ => 0) cI cZ) H1 := hP
  have hDn : va_D (aL s) (wX qx (fun _ _ => 0) (nI 0) (fun _ => 0) cI cZ) := hD
  have hK : va_K D vwCl (tIZ cI cZ) s := hK1
  subst e9
  have hP := hPn
  have hD := hDn
  clear hPn hDn
  refine W.widen (k := 10) (n := 230) (by omega) (by omega) ?_
  refine lv_astore_n (lv' := [(1, .ref (qx 9)), (0, .ref b)]) hx hb dL_law_7 rfl hl (by decide) rfl (fun ls hl => ?_)
  refine va_new (ci := 1) (fs := [.null, .null, .null, .null, .int 0, .null, .null, .null, .null, .null, .int 0]) (C := RX1) (T := TX1) (N := 11) hx hb hts0 inX1 tyX1 tyX1_ok hown (hts0 (.classLink RL 71 RX1) (by decide +kernel)) kI1 (hts0 (.initialized RX1) (by decide +kernel)) hK hP hD hS hA rfl (fun j hj => by rcases (show j = 0 ∨ j = 1 ∨ j = 2 ∨ j = 3 ∨ j = 4 ∨ j = 5 ∨ j = 6 ∨ j = 7 ∨ j = 8 ∨ j = 9 ∨ j = 10 by omega) with rfl | rfl | rfl | rfl | rfl | rfl | rfl | rfl | rfl | rfl | rfl <;> rfl) (Nat.le_of_ble_eq_true rfl) (Nat.le_of_ble_eq_true rfl) dL_law_8 (fun h1 H hP hD hS => ?_)
  have hP : va_P D vwCl (wX qx (fun _ _ => 0) (nI 0) (fun _ => 0) cI cZ ++ [(h1, .inr (1, [.null, .null, .null, .null, .int 0, .null, .null, .null, .null, .null, .int 0]))]) H := hP
  have hD : va_D (aL s) (wX qx (fun _ _ => 0) (nI 0) (fun _ => 0) cI cZ ++ [(h1, .inr (1, [.null, .null, .null, .null, .int 0, .null, .null, .null, .null, .null, .int 0]))]) := hD
  refine W.widen (k := 11) (n := 241) (by omega) (by omega) ?_
  refine lv_dup hx hb dL_law_11 rfl ?_
  have hPc := hP.sub (ws' := [(h1, .inr (1, [.null, .null, .null, .null, .int 0, .null, .null, .null, .null, .null, .int 0]))]) [10] rfl
  have hDc := hD.sub (ws' := [(h1, .inr (1, [.null, .null, .null, .null, .int 0, .null, .null, .null, .null, .null, .int 0]))]) [10] (by decide) rfl
  have hKc := hK.sub (tys' := []) [] rfl
  have hFc := va_free (wc := [(h1, .inr (1, [.null, .null, .null, .null, .int 0, .null, .null, .null, .null, .null, .int 0]))]) hD hS hA [10] rfl
  refine va_callv (A1 := va_A [(h1, .inr (1, [.null, .null, .null, .null, .int 0, .null, .null, .null, .null, .null, .int 0]))] H.size) (va_runI (As := []) (rest := [.ref h1]) ⟨hx, hb, hml, hown, hts⟩ (c_X1_init l D h1 H.size) (cwI 0 hts gL_law_X1_init rfl rfl rfl (hts0 (.initialized RX1) (by decide +kernel)) (hts0 (.methodLink RL 73 yX1_init) (by decide +kernel)) (hts0 (.instanceMethod yX1_init) (by decide +kernel)) rfl (by decide +kernel) ⟨Nat.le_of_ble_eq_true rfl, Nat.le_of_ble_eq_true rfl⟩) ⟨wS_blind, fun U hU hW => ⟨rfl, by rw [hU], ⟨by rw [hU]; exact hPc, hKc.moved hW.alike⟩, hDc.weaken (fun _ _ _ _ => trivial)⟩⟩ rfl rfl hl.1 rfl (lv_room (Nat.le_of_ble_eq_true rfl)) dL_law_12 ⟨Nat.le_of_ble_eq_true rfl, Nat.le_of_ble_eq_true rfl⟩) hS (fun q _ h => hFc q h) hFc (fun u t H1 locs1 ht1 hvm hw hB hz1 hk1 hS => ?_)
  obtain ⟨qm, cI2, cZ2⟩ := u
  obtain ⟨e9, hP3, hK3, hD3⟩ := hB
  rw [ht1] at hP3
  have hK3 := va_K.moved hvm.symm hK3
  have e9 : qm 9 = h1 := e9
  have eI : cI2 = cI := ra_eq (hK3.2 0 _ rfl).2 (hK.2 0 _ rfl).2
  have eZ : cZ2 = cZ := Option.some.inj ((hK3.2 1 _ rfl).2.symm.trans (hK.2 1 _ rfl).2)
  have hP3 : va_P D vwCl (wM qm (fun _ _ => 0) (nI 0) (fun _ => 0) 0 cI2 cZ2) H1 := hP3
  have hD3 : va_D (va_A [(h1, .inr (1, [.null, .null, .null, .null, .int 0, .null, .null, .null, .null, .null, .int 0]))] H.size) (wM qm (fun _ _ => 0) (nI 0) (fun _ => 0) 0 cI2 cZ2) := hD3
  rw [eI, eZ] at hP3 hD3
  obtain ⟨hP, hD⟩ := va_join (wr := wX qx (fun _ _ => 0) (nI 0) (fun _ => 0) cI cZ) (w1 := wM qm (fun _ _ => 0) (nI 0) (fun _ => 0) 0 cI cZ) hP hD [10] [0, 1, 2, 3, 4, 5, 6, 7, 8, 9] rfl rfl (by decide) (by decide) hk1 hFc hP3 hD3
  have hPn : va_P D vwCl (wX qx (fun _ _ => 0) (nI 0) (fun _ => 0) cI cZ ++ wM qm (fun _ _ => 0) (nI 0) (fun _ => 0) 0 cI cZ) H1 := hP
  have hDn : va_D (aL s) (wX qx (fun _ _ => 0) (nI 0) (fun _ => 0) cI cZ ++ wM qm (fun _ _ => 0) (nI 0) (fun _ => 0) 0 cI cZ) := hD
  subst e9
  have hP := hPn
  have hD := hDn
  clear hPn hDn
  refine W.widen (k := 20) (n := 461) (by omega) (by omega) ?_
  refine lv_astore_n (lv' := [(2, .ref (qm 9)), (1, .ref (qx 9)), (0, .ref b)]) hx hb dL_law_15 rfl hl (by decide) rfl (fun ls hl => ?_)
  refine lv_iconst (v := 1) hx hb dL_law_16 (by decide) ?_
  refine va_newa (atype := .long) (ty := .long) (a0 := (1, .inr (.inl (fun _ => 0)))) (N' := 1) hx hb (hts0 (.arrayClass .long) (by decide +kernel)) rfl hK hP hD hS hA (fun _ => rfl) (by decide) (by decide) (by decide) (Nat.le_of_ble_eq_true rfl) (Nat.le_of_ble_eq_true rfl) dL_law_17 (fun qo cL H hK hP hD hS => ?_)
  have hK : va_K D vwCl (tIZL cI cZ cL) s := hK
  have hP : va_P D vwCl (wAll qx (fun _ _ => 0) 0 (fun _ => 0) qo (fun _ => 0) qm (fun _ _ => 0) 0 (fun _ => 0) 0 cI cZ cL) H := hP.sub [0, 1, 2, 3, 4, 5, 6, 7, 8, 9, 20, 10, 11, 12, 13, 14, 15, 16, 17, 18, 19] rfl
  have hD : va_D (aL s) (wAll qx (fun _ _ => 0) 0 (fun _ => 0) qo (fun _ => 0) qm (fun _ _ => 0) 0 (fun _ => 0) 0 cI cZ cL) := hD.sub [0, 1, 2, 3, 4, 5, 6, 7, 8, 9, 20, 10, 11, 12, 13, 14, 15, 16, 17, 18, 19] (by decide) rfl
  refine lv_astore_n (lv' := [(3, .ref qo), (2, .ref (qm 9)), (1, .ref (qx 9)), (0, .ref b)]) hx hb dL_law_19 rfl hl (by decide) rfl (fun ls hl => ?_)
  refine lv_iconst (v := 0) hx hb dL_law_20 (by decide) ?_
  refine lv_istore (lv' := [(4, .int (nI 0)), (3, .ref qo), (2, .ref (qm 9)), (1, .ref (qx 9)), (0, .ref b)]) hx hb dL_law_21 hl (by decide) rfl (fun ls hl => ?_)
  refine W.widen (k := 21 + 2 * 0) (n := 462 + 8 * 0) (by omega) (by omega) ?_
  exact law_loop hL hfl C0 ht hn9 hK 2057 0 (by omega) (by omega) _ 0 _ _ _ _ _ _ _ wf_0 sy_0 hP hD hS (lv_sub hl [0, 4, 3, 2, 1] rfl)

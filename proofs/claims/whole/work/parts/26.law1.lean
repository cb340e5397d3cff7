/-! the law's own methods -/
set_option maxHeartbeats 4000000 in
set_option maxRecDepth 100000 in
theorem c_L_setDistance (l : Launch) (hfl : l.stackTraces = false) (D : va_G) (q : Nat → Nat) (F : Nat → Nat → Int32) (n : Nat) (R : Nat → Int32) (qo : Nat) (o : Nat → Int64) (cI cZ cL : ClassId) (sz : Nat) (c1 : Int32) (c2 : Int32) (d1 : Int32) (hw : WF F n) : Met l yL_setDistance wsL_setDistance ({ frames := 9, cells := 3, slots := 18, locals := 156 }) (va_Pc [.ref (q 9), .int c1, .int c2, .int d1, .ref qo] (lS D (wXo q F (nI n) R qo o cI cZ cL) (tIZL cI cZ cL) sz)) (va_Qi (fun (r : Int32) (u : (Nat → Nat → Int32) × (Nat → Int64)) => r = thSD c1 c2 d1 ∧ (thSD c1 c2 d1 = 0 → u.2 0 = (F 0 (c1 * 10 + c2).toNatClampNeg).toInt64 ∧ u.1 = fSD F c1 c2 d1) ∧ (¬ thSD c1 c2 d1 = 0 → u.1 = F)) (wB D (va_A (wXo q F (nI n) R qo o cI cZ cL) sz) (fun (u : (Nat → Nat → Int32) × (Nat → Int64)) => wXo q u.1 (nI n) R qo u.2 cI cZ cL)) (va_A (wXo q F (nI n) R qo o cI cZ cL) sz)) 3 18 (va_A (wXo q F (nI n) R qo o cI cZ cL) sz) := by
  refine l_of (hh := [(0, 12, 15, 13)]) (own := RL) (cc := cL_setDistance) (maxL := 6) (ret := (some .int)) (by decide) rfl rfl (Nat.le_of_ble_eq_true rfl) ?_
  intro p9 e9 s m9 a9 below meth c9 ls A hx hb hr hml hlocks hown hts htab ht hn hP hK hD hA hl
  have hS : va_S nA s.heap s.heap [] := va_S.rf
  have hl : lv_has ls 6 [(0, .ref (q 9)), (1, .int c1), (2, .int c2), (3, .int d1), (4, .ref qo)] := hl
  refine lv_aload hx hb dL_setDistance_0 (lv_at hl 4 rfl) ?_
  refine lv_iconst (v := 0) hx hb dL_setDistance_2 (by decide) ?_
  refine lv_aload_n hx hb dL_setDistance_3 rfl (lv_at hl 0 rfl) ?_
  refine lv_iload_n hx hb dL_setDistance_4 rfl (lv_at hl 1 rfl) ?_
  refine lv_iload_n hx hb dL_setDistance_5 rfl (lv_at hl 2 rfl) ?_
  refine lv_iload_n hx hb dL_setDistance_6 rfl (lv_at hl 3 rfl) ?_
  refine wx_V (As := [.int c1, .int c2, .int d1]) (rest := [.int 0, .ref qo]) (wr := [(qo, .inl (cL, 1, .inr (.inl o)))]) ⟨hx, hb, hml, hown, hts⟩ (c_X0_setDistance l hfl D q F n R cI cZ _ c1 c2 d1 hw) (cwV 3 hts gL_setDistance_X0_setDistance rfl rfl rfl (by decide +kernel) ⟨Nat.le_of_ble_eq_true rfl, Nat.le_of_ble_eq_true rfl⟩) ht (hK.sub [0, 1] rfl) hP hD hA [0, 1, 2, 3, 4, 5, 6, 7, 8, 9] [10] rfl rfl (by decide) rfl (by decide) (by decide) (va_recv hK hP (ci := 0) (q0 := 0) rfl rfl) hS rfl hl.1 rfl (Nat.le_of_ble_eq_true rfl) dL_setDistance_7 ⟨Nat.le_of_ble_eq_true rfl, Nat.le_of_ble_eq_true rfl⟩ (fun E ce q9 H locs hE hP hS hce hcv hcl => ?_) (fun r9 u9 H locs h9 hP hD hS => ?_)
  · obtain ⟨rfl, hth⟩ := hE
    refine vx_catch (name := "java/lang/IllegalArgumentException") hown [] ⟨0, 12, 15, 13⟩ [] htab (fun z hz => by cases hz) (by decide) (by decide) (hts (.classLink RL 13 "java/lang/IllegalArgumentException") (by decide +kernel)) (bW_use ht.1 _ bw_ia) hce hcv hcl ?_
    refine lv_astore (lv' := [(5, .ref q9), (0, .ref (q 9)), (1, .int c1), (2, .int c2), (3, .int d1), (4, .ref qo)]) hx hb dL_setDistance_15 hl (by decide) rfl (fun ls hl => ?_)
    refine lv_iconst (v := 1) hx hb dL_setDistance_17 (by decide) ?_
    refine W.widen (k := 3) (n := 18) (Nat.le_of_ble_eq_true rfl) (Nat.le_of_ble_eq_true rfl) ?_
    exact W.iret hx hb hr (fun t ht9 hW => ⟨⟨_, (F, o), rfl, (by show 1 = thSD c1 c2 d1 ∧ (thSD c1 c2 d1 = 0 → (F, o).2 0 = (F 0 (c1 * 10 + c2).toNatClampNeg).toInt64 ∧ (F, o).1 = fSD F c1 c2 d1) ∧ (¬ thSD c1 c2 d1 = 0 → (F, o).1 = F); exact ⟨hth.symm, fun h9 => absurd (hth.symm.trans h9) (by decide), fun _ => rfl⟩), by rw [ht9]; exact hP, hD⟩, hS.F ht9⟩) hS.2.2 dL_setDistance_18
  · obtain ⟨rfl, rfl, hth⟩ := h9
    have hP : va_P D vwCl (wXo q (fSD F c1 c2 d1) (nI n) R qo o cI cZ cL) H := hP.sub [1, 2, 3, 4, 5, 6, 7, 8, 9, 10, 0] rfl
    have hD : va_D A (wXo q (fSD F c1 c2 d1) (nI n) R qo o cI cZ cL) := hD.sub [1, 2, 3, 4, 5, 6, 7, 8, 9, 10, 0] (by decide) rfl
    refine lv_i2l hx hb dL_setDistance_10 rfl ?_
    refine va_last hx hb hK hP hD hS 10 2 rfl rfl (i := 0) (x := (F 0 ((c1 * 10) + c2).toNatClampNeg).toInt64) in_01 dL_setDistance_11 (fun H locs hP hD hS => ?_)
    have hP : va_P D vwCl (wXo q (fSD F c1 c2 d1) (nI n) R qo (vp_updL o (0 : Int32).toNatClampNeg ((F 0 ((c1 * 10) + c2).toNatClampNeg).toInt64)) cI cZ cL) H := hP
    have hD : va_D A (wXo q (fSD F c1 c2 d1) (nI n) R qo (vp_updL o (0 : Int32).toNatClampNeg ((F 0 ((c1 * 10) + c2).toNatClampNeg).toInt64)) cI cZ cL) := hD
    refine lv_goto (tgt := 19) hx hb dL_setDistance_12 (by decide) ?_
    refine lv_iconst (v := 0) hx hb dL_setDistance_19 (by decide) ?_
    refine W.widen (k := 3) (n := 18) (Nat.le_of_ble_eq_true rfl) (Nat.le_of_ble_eq_true rfl) ?_
    exact W.iret hx hb hr (fun t ht9 hW => ⟨⟨_, ((fSD F c1 c2 d1), (vp_updL o (0 : Int32).toNatClampNeg ((F 0 ((c1 * 10) + c2).toNatClampNeg).toInt64))), rfl, (by show 0 = thSD c1 c2 d1 ∧ (thSD c1 c2 d1 = 0 → ((fSD F c1 c2 d1), (vp_updL o (0 : Int32).toNatClampNeg ((F 0 ((c1 * 10) + c2).toNatClampNeg).toInt64))).2 0 = (F 0 (c1 * 10 + c2).toNatClampNeg).toInt64 ∧ ((fSD F c1 c2 d1), (vp_updL o (0 : Int32).toNatClampNeg ((F 0 ((c1 * 10) + c2).toNatClampNeg).toInt64))).1 = fSD F c1 c2 d1) ∧ (¬ thSD c1 c2 d1 = 0 → ((fSD F c1 c2 d1), (vp_updL o (0 : Int32).toNatClampNeg ((F 0 ((c1 * 10) + c2).toNatClampNeg).toInt64))).1 = F); exact ⟨hth.symm, fun _ => ⟨(by first | rfl | (simp [l01, vp_updL]; done)), rfl⟩, fun h9 => absurd hth h9⟩), by rw [ht9]; exact hP, hD⟩, hS.F ht9⟩) hS.2.2 dL_setDistance_20
set_option maxHeartbeats 4000000 in
set_option maxRecDepth 100000 in
theorem c_L_setQuantities (l : Launch) (hfl : l.stackTraces = false) (D : va_G) (q : Nat → Nat) (F : Nat → Nat → Int32) (n : Nat) (R : Nat → Int32) (qo : Nat) (o : Nat → Int64) (cI cZ cL : ClassId) (sz : Nat) (c1 : Int32) (l1 : Int32) (x1 : Int32) (hw : WF F n) : Met l yL_setQuantities wsL_setQuantities ({ frames := 9, cells := 3, slots := 18, locals := 155 }) (va_Pc [.ref (q 9), .int c1, .int l1, .int x1] (lS D (wXo q F (nI n) R qo o cI cZ cL) (tIZL cI cZ cL) sz)) (va_Qi (fun (r : Int32) (u : (Nat → Nat → Int32) × (Nat → Int64)) => r = thSQ c1 l1 x1 ∧ (thSQ c1 l1 x1 = 0 → u.1 = fSQ F c1 l1 x1) ∧ (¬ thSQ c1 l1 x1 = 0 → u.1 = F)) (wB D (va_A (wXo q F (nI n) R qo o cI cZ cL) sz) (fun (u : (Nat → Nat → Int32) × (Nat → Int64)) => wXo q u.1 (nI n) R qo u.2 cI cZ cL)) (va_A (wXo q F (nI n) R qo o cI cZ cL) sz)) 3 18 (va_A (wXo q F (nI n) R qo o cI cZ cL) sz) := by
  refine l_of (hh := [(0, 7, 10, 13)]) (own := RL) (cc := cL_setQuantities) (maxL := 5) (ret := (some .int)) (by decide) rfl rfl (Nat.le_of_ble_eq_true rfl) ?_
  intro p9 e9 s m9 a9 below meth c9 ls A hx hb hr hml hlocks hown hts htab ht hn hP hK hD hA hl
  have hS : va_S nA s.heap s.heap [] := va_S.rf
  have hl : lv_has ls 5 [(0, .ref (q 9)), (1, .int c1), (2, .int l1), (3, .int x1)] := hl
  refine lv_aload_n hx hb dL_setQuantities_0 rfl (lv_at hl 0 rfl) ?_
  refine lv_iload_n hx hb dL_setQuantities_1 rfl (lv_at hl 1 rfl) ?_
  refine lv_iload_n hx hb dL_setQuantities_2 rfl (lv_at hl 2 rfl) ?_
  refine lv_iload_n hx hb dL_setQuantities_3 rfl (lv_at hl 3 rfl) ?_
  refine wx_Vv (As := [.int c1, .int l1, .int x1]) (rest := []) (wr := [(qo, .inl (cL, 1, .inr (.inl o)))]) ⟨hx, hb, hml, hown, hts⟩ (c_X0_setQuantities l hfl D q F n R cI cZ _ c1 l1 x1 hw) (cwV 3 hts gL_setQuantities_X0_setQuantities rfl rfl rfl (by decide +kernel) ⟨Nat.le_of_ble_eq_true rfl, Nat.le_of_ble_eq_true rfl⟩) ht (hK.sub [0, 1] rfl) hP hD hA [0, 1, 2, 3, 4, 5, 6, 7, 8, 9] [10] rfl rfl (by decide) rfl (by decide) (by decide) (va_recv hK hP (ci := 0) (q0 := 0) rfl rfl) hS rfl hl.1 rfl (Nat.le_of_ble_eq_true rfl) dL_setQuantities_4 ⟨Nat.le_of_ble_eq_true rfl, Nat.le_of_ble_eq_true rfl⟩ (fun E ce q9 H locs hE hP hS hce hcv hcl => ?_) (fun u9 H locs h9 hP hD hS => ?_)
  · obtain ⟨rfl, hth⟩ := hE
    refine vx_catch (name := "java/lang/IllegalArgumentException") hown [] ⟨0, 7, 10, 13⟩ [] htab (fun z hz => by cases hz) (by decide) (by decide) (hts (.classLink RL 13 "java/lang/IllegalArgumentException") (by decide +kernel)) (bW_use ht.1 _ bw_ia) hce hcv hcl ?_
    refine lv_astore (lv' := [(4, .ref q9), (0, .ref (q 9)), (1, .int c1), (2, .int l1), (3, .int x1)]) hx hb dL_setQuantities_10 hl (by decide) rfl (fun ls hl => ?_)
    refine lv_iconst (v := 1) hx hb dL_setQuantities_12 (by decide) ?_
    refine W.widen (k := 3) (n := 18) (Nat.le_of_ble_eq_true rfl) (Nat.le_of_ble_eq_true rfl) ?_
    exact W.iret hx hb hr (fun t ht9 hW => ⟨⟨_, (F, o), rfl, (by show 1 = thSQ c1 l1 x1 ∧ (thSQ c1 l1 x1 = 0 → (F, o).1 = fSQ F c1 l1 x1) ∧ (¬ thSQ c1 l1 x1 = 0 → (F, o).1 = F); exact ⟨hth.symm, fun h9 => absurd (hth.symm.trans h9) (by decide), fun _ => rfl⟩), by rw [ht9]; exact hP, hD⟩, hS.F ht9⟩) hS.2.2 dL_setQuantities_13
  · obtain ⟨rfl, hth⟩ := h9
    have hP : va_P D vwCl (wXo q (fSQ F c1 l1 x1) (nI n) R qo o cI cZ cL) H := hP.sub [1, 2, 3, 4, 5, 6, 7, 8, 9, 10, 0] rfl
    have hD : va_D A (wXo q (fSQ F c1 l1 x1) (nI n) R qo o cI cZ cL) := hD.sub [1, 2, 3, 4, 5, 6, 7, 8, 9, 10, 0] (by decide) rfl
    refine lv_goto (tgt := 14) hx hb dL_setQuantities_7 (by decide) ?_
    refine lv_iconst (v := 0) hx hb dL_setQuantities_14 (by decide) ?_
    refine W.widen (k := 3) (n := 18) (Nat.le_of_ble_eq_true rfl) (Nat.le_of_ble_eq_true rfl) ?_
    exact W.iret hx hb hr (fun t ht9 hW => ⟨⟨_, ((fSQ F c1 l1 x1), o), rfl, (by show 0 = thSQ c1 l1 x1 ∧ (thSQ c1 l1 x1 = 0 → ((fSQ F c1 l1 x1), o).1 = fSQ F c1 l1 x1) ∧ (¬ thSQ c1 l1 x1 = 0 → ((fSQ F c1 l1 x1), o).1 = F); exact ⟨hth.symm, fun _ => rfl, fun h9 => absurd hth h9⟩), by rw [ht9]; exact hP, hD⟩, hS.F ht9⟩) hS.2.2 dL_setQuantities_15
set_option maxHeartbeats 4000000 in
set_option maxRecDepth 100000 in
theorem c_L_bar (l : Launch) (hfl : l.stackTraces = false) (D : va_G) (q : Nat → Nat) (F : Nat → Nat → Int32) (n : Nat) (R : Nat → Int32) (qo : Nat) (o : Nat → Int64) (cI cZ cL : ClassId) (sz : Nat) (c1 : Int32) (d1 : Int32) (b1 : Bool) (hw : WF F n) : Met l yL_bar wsL_bar ({ frames := 9, cells := 2, slots := 12, locals := 157 }) (va_Pc [.ref (q 9), .int c1, .int d1, .int (bi b1), .ref qo] (lS D (wXo q F (nI n) R qo o cI cZ cL) (tIZL cI cZ cL) sz)) (va_Qi (fun (r : Int32) (u : (Nat → Nat → Int32) × (Nat → Int64)) => r = thBar c1 d1 ∧ (thBar c1 d1 = 0 → u.2 0 = (if F 3 (c1 * 2 + d1).toNatClampNeg = 0 then 0 else 1) ∧ u.1 = fBar F c1 d1 b1) ∧ (¬ thBar c1 d1 = 0 → u.1 = F)) (wB D (va_A (wXo q F (nI n) R qo o cI cZ cL) sz) (fun (u : (Nat → Nat → Int32) × (Nat → Int64)) => wXo q u.1 (nI n) R qo u.2 cI cZ cL)) (va_A (wXo q F (nI n) R qo o cI cZ cL) sz)) 2 12 (va_A (wXo q F (nI n) R qo o cI cZ cL) sz) := by
  refine l_of (hh := [(0, 19, 22, 13)]) (own := RL) (cc := cL_bar) (maxL := 6) (ret := (some .int)) (by decide) rfl rfl (Nat.le_of_ble_eq_true rfl) ?_
  intro p9 e9 s m9 a9 below meth c9 ls A hx hb hr hml hlocks hown hts htab ht hn hP hK hD hA hl
  have hS : va_S nA s.heap s.heap [] := va_S.rf
  have hl : lv_has ls 6 [(0, .ref (q 9)), (1, .int c1), (2, .int d1), (3, .int (bi b1)), (4, .ref qo)] := hl
  refine lv_aload hx hb dL_bar_0 (lv_at hl 4 rfl) ?_
  refine lv_iconst (v := 0) hx hb dL_bar_2 (by decide) ?_
  refine lv_aload_n hx hb dL_bar_3 rfl (lv_at hl 0 rfl) ?_
  refine lv_iload_n hx hb dL_bar_4 rfl (lv_at hl 1 rfl) ?_
  refine lv_iload_n hx hb dL_bar_5 rfl (lv_at hl 2 rfl) ?_
  refine lv_iload_n hx hb dL_bar_6 rfl (lv_at hl 3 rfl) ?_
  refine wx_V (As := [.int c1, .int d1, .int (bi b1)]) (rest := [.int 0, .ref qo]) (wr := [(qo, .inl (cL, 1, .inr (.inl o)))]) ⟨hx, hb, hml, hown, hts⟩ (c_X0_bar l hfl D q F n R cI cZ _ c1 d1 b1 hw) (cwV 3 hts gL_bar_X0_bar rfl rfl rfl (by decide +kernel) ⟨Nat.le_of_ble_eq_true rfl, Nat.le_of_ble_eq_true rfl⟩) ht (hK.sub [0, 1] rfl) hP hD hA [0, 1, 2, 3, 4, 5, 6, 7, 8, 9] [10] rfl rfl (by decide) rfl (by decide) (by decide) (va_recv hK hP (ci := 0) (q0 := 0) rfl rfl) hS rfl hl.1 rfl (Nat.le_of_ble_eq_true rfl) dL_bar_7 ⟨Nat.le_of_ble_eq_true rfl, Nat.le_of_ble_eq_true rfl⟩ (fun E ce q9 H locs hE hP hS hce hcv hcl => ?_) (fun r9 u9 H locs h9 hP hD hS => ?_)
  · obtain ⟨rfl, hth⟩ := hE
    refine vx_catch (name := "java/lang/IllegalArgumentException") hown [] ⟨0, 19, 22, 13⟩ [] htab (fun z hz => by cases hz) (by decide) (by decide) (hts (.classLink RL 13 "java/lang/IllegalArgumentException") (by decide +kernel)) (bW_use ht.1 _ bw_ia) hce hcv hcl ?_
    refine lv_astore (lv' := [(5, .ref q9), (0, .ref (q 9)), (1, .int c1), (2, .int d1), (3, .int (bi b1)), (4, .ref qo)]) hx hb dL_bar_22 hl (by decide) rfl (fun ls hl => ?_)
    refine lv_iconst (v := 1) hx hb dL_bar_24 (by decide) ?_
    refine W.widen (k := 2) (n := 12) (Nat.le_of_ble_eq_true rfl) (Nat.le_of_ble_eq_true rfl) ?_
    exact W.iret hx hb hr (fun t ht9 hW => ⟨⟨_, (F, o), rfl, (by show 1 = thBar c1 d1 ∧ (thBar c1 d1 = 0 → (F, o).2 0 = (if F 3 (c1 * 2 + d1).toNatClampNeg = 0 then 0 else 1) ∧ (F, o).1 = fBar F c1 d1 b1) ∧ (¬ thBar c1 d1 = 0 → (F, o).1 = F); exact ⟨hth.symm, fun h9 => absurd (hth.symm.trans h9) (by decide), fun _ => rfl⟩), by rw [ht9]; exact hP, hD⟩, hS.F ht9⟩) hS.2.2 dL_bar_25
  · obtain ⟨rfl, rfl, hth⟩ := h9
    have hP : va_P D vwCl (wXo q (fBar F c1 d1 b1) (nI n) R qo o cI cZ cL) H := hP.sub [1, 2, 3, 4, 5, 6, 7, 8, 9, 10, 0] rfl
    have hD : va_D A (wXo q (fBar F c1 d1 b1) (nI n) R qo o cI cZ cL) := hD.sub [1, 2, 3, 4, 5, 6, 7, 8, 9, 10, 0] (by decide) rfl
    refine lv_if_eq (x := (F 3 ((c1 * 2) + d1).toNatClampNeg)) (tgt := 17) hx hb dL_bar_10 (by decide) (fun c_10 => ?_) (fun c_10 => ?_)
    · skip
      refine lv_lconst (v := 0) hx hb dL_bar_17 rfl ?_
      refine va_last hx hb hK hP hD hS 10 2 rfl rfl (i := 0) (x := 0) in_01 dL_bar_18 (fun H locs hP hD hS => ?_)
      have hP : va_P D vwCl (wXo q (fBar F c1 d1 b1) (nI n) R qo (vp_updL o (0 : Int32).toNatClampNeg 0) cI cZ cL) H := hP
      have hD : va_D A (wXo q (fBar F c1 d1 b1) (nI n) R qo (vp_updL o (0 : Int32).toNatClampNeg 0) cI cZ cL) := hD
      refine lv_goto (tgt := 26) hx hb dL_bar_19 (by decide) ?_
      refine lv_iconst (v := 0) hx hb dL_bar_26 (by decide) ?_
      refine W.widen (k := 2) (n := 12) (Nat.le_of_ble_eq_true rfl) (Nat.le_of_ble_eq_true rfl) ?_
      exact W.iret hx hb hr (fun t ht9 hW => ⟨⟨_, ((fBar F c1 d1 b1), (vp_updL o (0 : Int32).toNatClampNeg 0)), rfl, (by show 0 = thBar c1 d1 ∧ (thBar c1 d1 = 0 → ((fBar F c1 d1 b1), (vp_updL o (0 : Int32).toNatClampNeg 0)).2 0 = (if F 3 (c1 * 2 + d1).toNatClampNeg = 0 then 0 else 1) ∧ ((fBar F c1 d1 b1), (vp_updL o (0 : Int32).toNatClampNeg 0)).1 = fBar F c1 d1 b1) ∧ (¬ thBar c1 d1 = 0 → ((fBar F c1 d1 b1), (vp_updL o (0 : Int32).toNatClampNeg 0)).1 = F); exact ⟨hth.symm, fun _ => ⟨(by first | rfl | (simp [l01, vp_updL, eq_true c_10]; done)), rfl⟩, fun h9 => absurd hth h9⟩), by rw [ht9]; exact hP, hD⟩, hS.F ht9⟩) hS.2.2 dL_bar_27
    · skip
      refine lv_lconst (v := 1) hx hb dL_bar_13 rfl ?_
      refine lv_goto (tgt := 18) hx hb dL_bar_14 (by decide) ?_
      refine va_last hx hb hK hP hD hS 10 2 rfl rfl (i := 0) (x := 1) in_01 dL_bar_18 (fun H locs hP hD hS => ?_)
      have hP : va_P D vwCl (wXo q (fBar F c1 d1 b1) (nI n) R qo (vp_updL o (0 : Int32).toNatClampNeg 1) cI cZ cL) H := hP
      have hD : va_D A (wXo q (fBar F c1 d1 b1) (nI n) R qo (vp_updL o (0 : Int32).toNatClampNeg 1) cI cZ cL) := hD
      refine lv_goto (tgt := 26) hx hb dL_bar_19 (by decide) ?_
      refine lv_iconst (v := 0) hx hb dL_bar_26 (by decide) ?_
      refine W.widen (k := 2) (n := 12) (Nat.le_of_ble_eq_true rfl) (Nat.le_of_ble_eq_true rfl) ?_
      exact W.iret hx hb hr (fun t ht9 hW => ⟨⟨_, ((fBar F c1 d1 b1), (vp_updL o (0 : Int32).toNatClampNeg 1)), rfl, (by show 0 = thBar c1 d1 ∧ (thBar c1 d1 = 0 → ((fBar F c1 d1 b1), (vp_updL o (0 : Int32).toNatClampNeg 1)).2 0 = (if F 3 (c1 * 2 + d1).toNatClampNeg = 0 then 0 else 1) ∧ ((fBar F c1 d1 b1), (vp_updL o (0 : Int32).toNatClampNeg 1)).1 = fBar F c1 d1 b1) ∧ (¬ thBar c1 d1 = 0 → ((fBar F c1 d1 b1), (vp_updL o (0 : Int32).toNatClampNeg 1)).1 = F); exact ⟨hth.symm, fun _ => ⟨(by first | rfl | (simp [l01, vp_updL, eq_false c_10]; done)), rfl⟩, fun h9 => absurd hth h9⟩), by rw [ht9]; exact hP, hD⟩, hS.F ht9⟩) hS.2.2 dL_bar_27
set_option maxHeartbeats 4000000 in
set_option maxRecDepth 100000 in
theorem c_L_distance (l : Launch) (hfl : l.stackTraces = false) (D : va_G) (q : Nat → Nat) (F : Nat → Nat → Int32) (n : Nat) (R : Nat → Int32) (qo : Nat) (o : Nat → Int64) (cI cZ cL : ClassId) (sz : Nat) (c1 : Int32) (c2 : Int32) (hw : WF F n) : Met l yL_distance wsL_distance ({ frames := 9, cells := 2, slots := 12, locals := 154 }) (va_Pc [.ref (q 9), .int c1, .int c2, .ref qo] (lS D (wXo q F (nI n) R qo o cI cZ cL) (tIZL cI cZ cL) sz)) (va_Qi (fun (r : Int32) (u : Nat → Int64) => r = thD c1 c2 ∧ (thD c1 c2 = 0 → u 0 = (sDist c1 c2).toInt64)) (wB D (va_A (wXo q F (nI n) R qo o cI cZ cL) sz) (fun (u : Nat → Int64) => wXo q F (nI n) R qo u cI cZ cL)) (va_A (wXo q F (nI n) R qo o cI cZ cL) sz)) 2 12 (va_A (wXo q F (nI n) R qo o cI cZ cL) sz) := by
  refine l_of (hh := [(0, 10, 13, 13)]) (own := RL) (cc := cL_distance) (maxL := 5) (ret := (some .int)) (by decide) rfl rfl (Nat.le_of_ble_eq_true rfl) ?_
  intro p9 e9 s m9 a9 below meth c9 ls A hx hb hr hml hlocks hown hts htab ht hn hP hK hD hA hl
  have hS : va_S nA s.heap s.heap [] := va_S.rf
  have hl : lv_has ls 5 [(0, .ref (q 9)), (1, .int c1), (2, .int c2), (3, .ref qo)] := hl
  refine lv_aload_n hx hb dL_distance_0 rfl (lv_at hl 3 rfl) ?_
  refine lv_iconst (v := 0) hx hb dL_distance_1 (by decide) ?_
  refine lv_aload_n hx hb dL_distance_2 rfl (lv_at hl 0 rfl) ?_
  refine lv_iload_n hx hb dL_distance_3 rfl (lv_at hl 1 rfl) ?_
  refine lv_iload_n hx hb dL_distance_4 rfl (lv_at hl 2 rfl) ?_
  refine tx_Vi (As := [.int c1, .int c2]) (rest := [.int 0, .ref qo]) ⟨hx, hb, hml, hown, hts⟩ (c_X0_distance l hfl D q F n R cI cZ c1 c2) (cwV 2 hts gL_distance_X0_distance rfl rfl rfl (by decide +kernel) ⟨Nat.le_of_ble_eq_true rfl, Nat.le_of_ble_eq_true rfl⟩) ht (hK.sub [0, 1] rfl) hP (hP.sub [0, 1, 2, 3, 4, 5, 6, 7, 8, 9] rfl) (va_recv hK hP (ci := 0) (q0 := 0) rfl rfl) hS rfl hl.1 rfl (Nat.le_of_ble_eq_true rfl) dL_distance_5 ⟨Nat.le_of_ble_eq_true rfl, Nat.le_of_ble_eq_true rfl⟩ (fun E ce q9 H locs hE hP hS hce hcv hcl => ?_) (fun r9 H locs h9 hP hS => ?_)
  · obtain ⟨rfl, hth⟩ := hE
    refine vx_catch (name := "java/lang/IllegalArgumentException") hown [] ⟨0, 10, 13, 13⟩ [] htab (fun z hz => by cases hz) (by decide) (by decide) (hts (.classLink RL 13 "java/lang/IllegalArgumentException") (by decide +kernel)) (bW_use ht.1 _ bw_ia) hce hcv hcl ?_
    refine lv_astore (lv' := [(4, .ref q9), (0, .ref (q 9)), (1, .int c1), (2, .int c2), (3, .ref qo)]) hx hb dL_distance_13 hl (by decide) rfl (fun ls hl => ?_)
    refine lv_iconst (v := 1) hx hb dL_distance_15 (by decide) ?_
    have hS := nA_S (A := A) hS
    refine W.widen (k := 2) (n := 12) (Nat.le_of_ble_eq_true rfl) (Nat.le_of_ble_eq_true rfl) ?_
    exact W.iret hx hb hr (fun t ht9 hW => ⟨⟨_, o, rfl, (by show 1 = thD c1 c2 ∧ (thD c1 c2 = 0 → o 0 = (sDist c1 c2).toInt64); exact ⟨hth.symm, fun h9 => absurd (hth.symm.trans h9) (by decide)⟩), by rw [ht9]; exact hP, hD⟩, hS.F ht9⟩) hS.2.2 dL_distance_16
  · obtain ⟨rfl, hth⟩ := h9
    refine lv_i2l hx hb dL_distance_8 rfl ?_
    have hS := nA_S (A := A) hS
    refine va_last hx hb hK hP hD hS 10 2 rfl rfl (i := 0) (x := (sDist c1 c2).toInt64) in_01 dL_distance_9 (fun H locs hP hD hS => ?_)
    have hP : va_P D vwCl (wXo q F (nI n) R qo (vp_updL o (0 : Int32).toNatClampNeg ((sDist c1 c2).toInt64)) cI cZ cL) H := hP
    have hD : va_D A (wXo q F (nI n) R qo (vp_updL o (0 : Int32).toNatClampNeg ((sDist c1 c2).toInt64)) cI cZ cL) := hD
    refine lv_goto (tgt := 17) hx hb dL_distance_10 (by decide) ?_
    refine lv_iconst (v := 0) hx hb dL_distance_17 (by decide) ?_
    refine W.widen (k := 2) (n := 12) (Nat.le_of_ble_eq_true rfl) (Nat.le_of_ble_eq_true rfl) ?_
    exact W.iret hx hb hr (fun t ht9 hW => ⟨⟨_, (vp_updL o (0 : Int32).toNatClampNeg ((sDist c1 c2).toInt64)), rfl, (by show 0 = thD c1 c2 ∧ (thD c1 c2 = 0 → (vp_updL o (0 : Int32).toNatClampNeg ((sDist c1 c2).toInt64)) 0 = (sDist c1 c2).toInt64); exact ⟨hth.symm, fun _ => (by first | rfl | (simp [l01, vp_updL]; done))⟩), by rw [ht9]; exact hP, hD⟩, hS.F ht9⟩) hS.2.2 dL_distance_18
set_option maxHeartbeats 4000000 in
set_option maxRecDepth 100000 in
theorem c_L_add (l : Launch) (hfl : l.stackTraces = false) (D : va_G) (q : Nat → Nat) (F : Nat → Nat → Int32) (n : Nat) (R : Nat → Int32) (qo : Nat) (o : Nat → Int64) (cI cZ cL : ClassId) (sz : Nat) (c1 : Int32) (c2 : Int32) (x1 : Int32) (hw : WF F n) : Met l yL_add wsL_add ({ frames := 10, cells := 5, slots := 30, locals := 177 }) (va_Pc [.ref (q 9), .int c1, .int c2, .int x1, .ref qo] (lS D (wXo q F (nI n) R qo o cI cZ cL) (tIZL cI cZ cL) sz)) (va_Qi (fun (r : Int32) (u : (Nat → Nat → Int32) × Nat × (Nat → Int64)) => r = thAdd n c1 c2 x1 ∧ (thAdd n c1 c2 x1 = 0 → u.2.2 0 = (nI n).toInt64 ∧ u.1 = fAdd F n c1 c2 x1 ∧ u.2.1 = n + 1) ∧ (¬ thAdd n c1 c2 x1 = 0 → u.1 = F ∧ u.2.1 = n)) (wB D (va_A (wXo q F (nI n) R qo o cI cZ cL) sz) (fun (u : (Nat → Nat → Int32) × Nat × (Nat → Int64)) => wXo q u.1 (nI u.2.1) R qo u.2.2 cI cZ cL)) (va_A (wXo q F (nI n) R qo o cI cZ cL) sz)) 5 30 (va_A (wXo q F (nI n) R qo o cI cZ cL) sz) := by
  refine l_of (hh := [(0, 12, 15, 13), (0, 12, 19, 30)]) (own := RL) (cc := cL_add) (maxL := 6) (ret := (some .int)) (by decide) rfl rfl (Nat.le_of_ble_eq_true rfl) ?_
  intro p9 e9 s m9 a9 below meth c9 ls A hx hb hr hml hlocks hown hts htab ht hn hP hK hD hA hl
  have hS : va_S nA s.heap s.heap [] := va_S.rf
  have hl : lv_has ls 6 [(0, .ref (q 9)), (1, .int c1), (2, .int c2), (3, .int x1), (4, .ref qo)] := hl
  refine lv_aload hx hb dL_add_0 (lv_at hl 4 rfl) ?_
  refine lv_iconst (v := 0) hx hb dL_add_2 (by decide) ?_
  refine lv_aload_n hx hb dL_add_3 rfl (lv_at hl 0 rfl) ?_
  refine lv_iload_n hx hb dL_add_4 rfl (lv_at hl 1 rfl) ?_
  refine lv_iload_n hx hb dL_add_5 rfl (lv_at hl 2 rfl) ?_
  refine lv_iload_n hx hb dL_add_6 rfl (lv_at hl 3 rfl) ?_
  refine wx_V (As := [.int c1, .int c2, .int x1]) (rest := [.int 0, .ref qo]) (wr := [(qo, .inl (cL, 1, .inr (.inl o)))]) ⟨hx, hb, hml, hown, hts⟩ (c_X0_add l hfl D q F n R cI cZ _ c1 c2 x1 hw) (cwV 3 hts gL_add_X0_add rfl rfl rfl (by decide +kernel) ⟨Nat.le_of_ble_eq_true rfl, Nat.le_of_ble_eq_true rfl⟩) ht (hK.sub [0, 1] rfl) hP hD hA [0, 1, 2, 3, 4, 5, 6, 7, 8, 9] [10] rfl rfl (by decide) rfl (by decide) (by decide) (va_recv hK hP (ci := 0) (q0 := 0) rfl rfl) hS rfl hl.1 rfl (Nat.le_of_ble_eq_true rfl) dL_add_7 ⟨Nat.le_of_ble_eq_true rfl, Nat.le_of_ble_eq_true rfl⟩ (fun E ce q9 H locs hE hP hS hce hcv hcl => ?_) (fun r9 u9 H locs h9 hP hD hS => ?_)
  · rcases hE with ⟨rfl, hth⟩ | ⟨rfl, hth⟩
    · skip
      refine vx_catch (name := "java/lang/IllegalArgumentException") hown [] ⟨0, 12, 15, 13⟩ [⟨0, 12, 19, 30⟩] htab (fun z hz => by cases hz) (by decide) (by decide) (hts (.classLink RL 13 "java/lang/IllegalArgumentException") (by decide +kernel)) (bW_use ht.1 _ bw_ia) hce hcv hcl ?_
      refine lv_astore (lv' := [(5, .ref q9), (0, .ref (q 9)), (1, .int c1), (2, .int c2), (3, .int x1), (4, .ref qo)]) hx hb dL_add_15 hl (by decide) rfl (fun ls hl => ?_)
      refine lv_iconst (v := 1) hx hb dL_add_17 (by decide) ?_
      refine W.widen (k := 5) (n := 30) (Nat.le_of_ble_eq_true rfl) (Nat.le_of_ble_eq_true rfl) ?_
      exact W.iret hx hb hr (fun t ht9 hW => ⟨⟨_, (F, n, o), rfl, (by show 1 = thAdd n c1 c2 x1 ∧ (thAdd n c1 c2 x1 = 0 → (F, n, o).2.2 0 = (nI n).toInt64 ∧ (F, n, o).1 = fAdd F n c1 c2 x1 ∧ (F, n, o).2.1 = n + 1) ∧ (¬ thAdd n c1 c2 x1 = 0 → (F, n, o).1 = F ∧ (F, n, o).2.1 = n); exact ⟨hth.symm, fun h9 => absurd (hth.symm.trans h9) (by decide), fun _ => ⟨rfl, rfl⟩⟩), by rw [ht9]; exact hP, hD⟩, hS.F ht9⟩) hS.2.2 dL_add_18
    · skip
      refine vx_catch (name := "java/lang/IllegalStateException") hown [⟨0, 12, 15, 13⟩] ⟨0, 12, 19, 30⟩ [] htab (fun z hz => by rw [List.mem_singleton.mp hz]; exact Or.inr ⟨by decide, "java/lang/IllegalArgumentException", hts (.classLink RL 13 "java/lang/IllegalArgumentException") (by decide +kernel), hn.1⟩) (by decide) (by decide) (hts (.classLink RL 30 "java/lang/IllegalStateException") (by decide +kernel)) (bW_use ht.1 _ bw_is) hce hcv hcl ?_
      refine lv_astore (lv' := [(5, .ref q9), (0, .ref (q 9)), (1, .int c1), (2, .int c2), (3, .int x1), (4, .ref qo)]) hx hb dL_add_19 hl (by decide) rfl (fun ls hl => ?_)
      refine lv_iconst (v := 2) hx hb dL_add_21 (by decide) ?_
      refine W.widen (k := 5) (n := 30) (Nat.le_of_ble_eq_true rfl) (Nat.le_of_ble_eq_true rfl) ?_
      exact W.iret hx hb hr (fun t ht9 hW => ⟨⟨_, (F, n, o), rfl, (by show 2 = thAdd n c1 c2 x1 ∧ (thAdd n c1 c2 x1 = 0 → (F, n, o).2.2 0 = (nI n).toInt64 ∧ (F, n, o).1 = fAdd F n c1 c2 x1 ∧ (F, n, o).2.1 = n + 1) ∧ (¬ thAdd n c1 c2 x1 = 0 → (F, n, o).1 = F ∧ (F, n, o).2.1 = n); exact ⟨hth.symm, fun h9 => absurd (hth.symm.trans h9) (by decide), fun _ => ⟨rfl, rfl⟩⟩), by rw [ht9]; exact hP, hD⟩, hS.F ht9⟩) hS.2.2 dL_add_22
  · obtain ⟨rfl, rfl, hth⟩ := h9
    have hP : va_P D vwCl (wXo q (fAdd F n c1 c2 x1) (nI (n + 1)) R qo o cI cZ cL) H := hP.sub [1, 2, 3, 4, 5, 6, 7, 8, 9, 10, 0] rfl
    have hD : va_D A (wXo q (fAdd F n c1 c2 x1) (nI (n + 1)) R qo o cI cZ cL) := hD.sub [1, 2, 3, 4, 5, 6, 7, 8, 9, 10, 0] (by decide) rfl
    refine lv_i2l hx hb dL_add_10 rfl ?_
    refine va_last hx hb hK hP hD hS 10 2 rfl rfl (i := 0) (x := (nI n).toInt64) in_01 dL_add_11 (fun H locs hP hD hS => ?_)
    have hP : va_P D vwCl (wXo q (fAdd F n c1 c2 x1) (nI (n + 1)) R qo (vp_updL o (0 : Int32).toNatClampNeg ((nI n).toInt64)) cI cZ cL) H := hP
    have hD : va_D A (wXo q (fAdd F n c1 c2 x1) (nI (n + 1)) R qo (vp_updL o (0 : Int32).toNatClampNeg ((nI n).toInt64)) cI cZ cL) := hD
    refine lv_goto (tgt := 23) hx hb dL_add_12 (by decide) ?_
    refine lv_iconst (v := 0) hx hb dL_add_23 (by decide) ?_
    refine W.widen (k := 5) (n := 30) (Nat.le_of_ble_eq_true rfl) (Nat.le_of_ble_eq_true rfl) ?_
    exact W.iret hx hb hr (fun t ht9 hW => ⟨⟨_, ((fAdd F n c1 c2 x1), n + 1, (vp_updL o (0 : Int32).toNatClampNeg ((nI n).toInt64))), rfl, (by show 0 = thAdd n c1 c2 x1 ∧ (thAdd n c1 c2 x1 = 0 → ((fAdd F n c1 c2 x1), n + 1, (vp_updL o (0 : Int32).toNatClampNeg ((nI n).toInt64))).2.2 0 = (nI n).toInt64 ∧ ((fAdd F n c1 c2 x1), n + 1, (vp_updL o (0 : Int32).toNatClampNeg ((nI n).toInt64))).1 = fAdd F n c1 c2 x1 ∧ ((fAdd F n c1 c2 x1), n + 1, (vp_updL o (0 : Int32).toNatClampNeg ((nI n).toInt64))).2.1 = n + 1) ∧ (¬ thAdd n c1 c2 x1 = 0 → ((fAdd F n c1 c2 x1), n + 1, (vp_updL o (0 : Int32).toNatClampNeg ((nI n).toInt64))).1 = F ∧ ((fAdd F n c1 c2 x1), n + 1, (vp_updL o (0 : Int32).toNatClampNeg ((nI n).toInt64))).2.1 = n); exact ⟨hth.symm, fun _ => ⟨(by first | rfl | (simp [l01, vp_updL]; done)), rfl, rfl⟩, fun h9 => absurd hth h9⟩), by rw [ht9]; exact hP, hD⟩, hS.F ht9⟩) hS.2.2 dL_add_24
set_option maxHeartbeats 4000000 in
set_option maxRecDepth 100000 in
theorem c_L_setQuantity (l : Launch) (hfl : l.stackTraces = false) (D : va_G) (q : Nat → Nat) (F : Nat → Nat → Int32) (n : Nat) (R : Nat → Int32) (qo : Nat) (o : Nat → Int64) (cI cZ cL : ClassId) (sz : Nat) (v : Int32) (x1 : Int32) (hw : WF F n) : Met l yL_setQuantity wsL_setQuantity ({ frames := 9, cells := 2, slots := 12, locals := 155 }) (va_Pc [.ref (q 9), .int v, .int x1, .ref qo] (lS D (wXo q F (nI n) R qo o cI cZ cL) (tIZL cI cZ cL) sz)) (va_Qi (fun (r : Int32) (u : (Nat → Nat → Int32) × (Nat → Int64)) => r = thQ n v x1 ∧ (thQ n v x1 = 0 → u.2 0 = (F 6 (gi v)).toInt64 ∧ u.1 = fQ F (gi v) x1) ∧ (¬ thQ n v x1 = 0 → u.1 = F)) (wB D (va_A (wXo q F (nI n) R qo o cI cZ cL) sz) (fun (u : (Nat → Nat → Int32) × (Nat → Int64)) => wXo q u.1 (nI n) R qo u.2 cI cZ cL)) (va_A (wXo q F (nI n) R qo o cI cZ cL) sz)) 2 12 (va_A (wXo q F (nI n) R qo o cI cZ cL) sz) := by
  refine l_of (hh := [(0, 10, 13, 35), (0, 10, 17, 13)]) (own := RL) (cc := cL_setQuantity) (maxL := 5) (ret := (some .int)) (by decide) rfl rfl (Nat.le_of_ble_eq_true rfl) ?_
  intro p9 e9 s m9 a9 below meth c9 ls A hx hb hr hml hlocks hown hts htab ht hn hP hK hD hA hl
  have hS : va_S nA s.heap s.heap [] := va_S.rf
  have hl : lv_has ls 5 [(0, .ref (q 9)), (1, .int v), (2, .int x1), (3, .ref qo)] := hl
  refine lv_aload_n hx hb dL_setQuantity_0 rfl (lv_at hl 3 rfl) ?_
  refine lv_iconst (v := 0) hx hb dL_setQuantity_1 (by decide) ?_
  refine lv_aload_n hx hb dL_setQuantity_2 rfl (lv_at hl 0 rfl) ?_
  refine lv_iload_n hx hb dL_setQuantity_3 rfl (lv_at hl 1 rfl) ?_
  refine lv_iload_n hx hb dL_setQuantity_4 rfl (lv_at hl 2 rfl) ?_
  refine wx_V (As := [.int v, .int x1]) (rest := [.int 0, .ref qo]) (wr := [(qo, .inl (cL, 1, .inr (.inl o)))]) ⟨hx, hb, hml, hown, hts⟩ (c_X0_setQuantity l hfl D q F n R cI cZ _ v x1 hw) (cwV 2 hts gL_setQuantity_X0_setQuantity rfl rfl rfl (by decide +kernel) ⟨Nat.le_of_ble_eq_true rfl, Nat.le_of_ble_eq_true rfl⟩) ht (hK.sub [0, 1] rfl) hP hD hA [0, 1, 2, 3, 4, 5, 6, 7, 8, 9] [10] rfl rfl (by decide) rfl (by decide) (by decide) (va_recv hK hP (ci := 0) (q0 := 0) rfl rfl) hS rfl hl.1 rfl (Nat.le_of_ble_eq_true rfl) dL_setQuantity_5 ⟨Nat.le_of_ble_eq_true rfl, Nat.le_of_ble_eq_true rfl⟩ (fun E ce q9 H locs hE hP hS hce hcv hcl => ?_) (fun r9 u9 H locs h9 hP hD hS => ?_)
  · rcases hE with ⟨rfl, hth⟩ | ⟨rfl, hth⟩
    · skip
      refine vx_catch (name := "java/lang/IndexOutOfBoundsException") hown [] ⟨0, 10, 13, 35⟩ [⟨0, 10, 17, 13⟩] htab (fun z hz => by cases hz) (by decide) (by decide) (hts (.classLink RL 35 "java/lang/IndexOutOfBoundsException") (by decide +kernel)) (bW_use ht.1 _ bw_io) hce hcv hcl ?_
      refine lv_astore (lv' := [(4, .ref q9), (0, .ref (q 9)), (1, .int v), (2, .int x1), (3, .ref qo)]) hx hb dL_setQuantity_13 hl (by decide) rfl (fun ls hl => ?_)
      refine lv_iconst (v := 1) hx hb dL_setQuantity_15 (by decide) ?_
      refine W.widen (k := 2) (n := 12) (Nat.le_of_ble_eq_true rfl) (Nat.le_of_ble_eq_true rfl) ?_
      exact W.iret hx hb hr (fun t ht9 hW => ⟨⟨_, (F, o), rfl, (by show 1 = thQ n v x1 ∧ (thQ n v x1 = 0 → (F, o).2 0 = (F 6 (gi v)).toInt64 ∧ (F, o).1 = fQ F (gi v) x1) ∧ (¬ thQ n v x1 = 0 → (F, o).1 = F); exact ⟨hth.symm, fun h9 => absurd (hth.symm.trans h9) (by decide), fun _ => rfl⟩), by rw [ht9]; exact hP, hD⟩, hS.F ht9⟩) hS.2.2 dL_setQuantity_16
    · skip
      refine vx_catch (name := "java/lang/IllegalArgumentException") hown [⟨0, 10, 13, 35⟩] ⟨0, 10, 17, 13⟩ [] htab (fun z hz => by rw [List.mem_singleton.mp hz]; exact Or.inr ⟨by decide, "java/lang/IndexOutOfBoundsException", hts (.classLink RL 35 "java/lang/IndexOutOfBoundsException") (by decide +kernel), hn.2⟩) (by decide) (by decide) (hts (.classLink RL 13 "java/lang/IllegalArgumentException") (by decide +kernel)) (bW_use ht.1 _ bw_ia) hce hcv hcl ?_
      refine lv_astore (lv' := [(4, .ref q9), (0, .ref (q 9)), (1, .int v), (2, .int x1), (3, .ref qo)]) hx hb dL_setQuantity_17 hl (by decide) rfl (fun ls hl => ?_)
      refine lv_iconst (v := 2) hx hb dL_setQuantity_19 (by decide) ?_
      refine W.widen (k := 2) (n := 12) (Nat.le_of_ble_eq_true rfl) (Nat.le_of_ble_eq_true rfl) ?_
      exact W.iret hx hb hr (fun t ht9 hW => ⟨⟨_, (F, o), rfl, (by show 2 = thQ n v x1 ∧ (thQ n v x1 = 0 → (F, o).2 0 = (F 6 (gi v)).toInt64 ∧ (F, o).1 = fQ F (gi v) x1) ∧ (¬ thQ n v x1 = 0 → (F, o).1 = F); exact ⟨hth.symm, fun h9 => absurd (hth.symm.trans h9) (by decide), fun _ => rfl⟩), by rw [ht9]; exact hP, hD⟩, hS.F ht9⟩) hS.2.2 dL_setQuantity_20
  · obtain ⟨rfl, rfl, hth⟩ := h9
    have hP : va_P D vwCl (wXo q (fQ F (gi v) x1) (nI n) R qo o cI cZ cL) H := hP.sub [1, 2, 3, 4, 5, 6, 7, 8, 9, 10, 0] rfl
    have hD : va_D A (wXo q (fQ F (gi v) x1) (nI n) R qo o cI cZ cL) := hD.sub [1, 2, 3, 4, 5, 6, 7, 8, 9, 10, 0] (by decide) rfl
    refine lv_i2l hx hb dL_setQuantity_8 rfl ?_
    refine va_last hx hb hK hP hD hS 10 2 rfl rfl (i := 0) (x := (F 6 (gi v)).toInt64) in_01 dL_setQuantity_9 (fun H locs hP hD hS => ?_)
    have hP : va_P D vwCl (wXo q (fQ F (gi v) x1) (nI n) R qo (vp_updL o (0 : Int32).toNatClampNeg ((F 6 (gi v)).toInt64)) cI cZ cL) H := hP
    have hD : va_D A (wXo q (fQ F (gi v) x1) (nI n) R qo (vp_updL o (0 : Int32).toNatClampNeg ((F 6 (gi v)).toInt64)) cI cZ cL) := hD
    refine lv_goto (tgt := 21) hx hb dL_setQuantity_10 (by decide) ?_
    refine lv_iconst (v := 0) hx hb dL_setQuantity_21 (by decide) ?_
    refine W.widen (k := 2) (n := 12) (Nat.le_of_ble_eq_true rfl) (Nat.le_of_ble_eq_true rfl) ?_
    exact W.iret hx hb hr (fun t ht9 hW => ⟨⟨_, ((fQ F (gi v) x1), (vp_updL o (0 : Int32).toNatClampNeg ((F 6 (gi v)).toInt64))), rfl, (by show 0 = thQ n v x1 ∧ (thQ n v x1 = 0 → ((fQ F (gi v) x1), (vp_updL o (0 : Int32).toNatClampNeg ((F 6 (gi v)).toInt64))).2 0 = (F 6 (gi v)).toInt64 ∧ ((fQ F (gi v) x1), (vp_updL o (0 : Int32).toNatClampNeg ((F 6 (gi v)).toInt64))).1 = fQ F (gi v) x1) ∧ (¬ thQ n v x1 = 0 → ((fQ F (gi v) x1), (vp_updL o (0 : Int32).toNatClampNeg ((F 6 (gi v)).toInt64))).1 = F); exact ⟨hth.symm, fun _ => ⟨(by first | rfl | (simp [l01, vp_updL]; done)), rfl⟩, fun h9 => absurd hth h9⟩), by rw [ht9]; exact hP, hD⟩, hS.F ht9⟩) hS.2.2 dL_setQuantity_22
set_option maxHeartbeats 4000000 in
set_option maxRecDepth 100000 in
theorem c_L_put (l : Launch) (hfl : l.stackTraces = false) (D : va_G) (q : Nat → Nat) (F : Nat → Nat → Int32) (n : Nat) (R : Nat → Int32) (qo : Nat) (o : Nat → Int64) (cI cZ cL : ClassId) (sz : Nat) (v : Int32) (x1 : Int32) (hw : WF F n) : Met l yL_put wsL_put ({ frames := 9, cells := 2, slots := 12, locals := 155 }) (va_Pc [.ref (q 9), .int v, .int x1, .ref qo] (lS D (wXo q F (nI n) R qo o cI cZ cL) (tIZL cI cZ cL) sz)) (va_Qi (fun (r : Int32) (u : (Nat → Nat → Int32) × (Nat → Int64)) => r = thP n v x1 ∧ (thP n v x1 = 0 → u.2 0 = (F 7 (gi v)).toInt64 ∧ u.1 = fP F (gi v) x1) ∧ (¬ thP n v x1 = 0 → u.1 = F)) (wB D (va_A (wXo q F (nI n) R qo o cI cZ cL) sz) (fun (u : (Nat → Nat → Int32) × (Nat → Int64)) => wXo q u.1 (nI n) R qo u.2 cI cZ cL)) (va_A (wXo q F (nI n) R qo o cI cZ cL) sz)) 2 12 (va_A (wXo q F (nI n) R qo o cI cZ cL) sz) := by
  refine l_of (hh := [(0, 10, 13, 35), (0, 10, 17, 13)]) (own := RL) (cc := cL_put) (maxL := 5) (ret := (some .int)) (by decide) rfl rfl (Nat.le_of_ble_eq_true rfl) ?_
  intro p9 e9 s m9 a9 below meth c9 ls A hx hb hr hml hlocks hown hts htab ht hn hP hK hD hA hl
  have hS : va_S nA s.heap s.heap [] := va_S.rf
  have hl : lv_has ls 5 [(0, .ref (q 9)), (1, .int v), (2, .int x1), (3, .ref qo)] := hl
  refine lv_aload_n hx hb dL_put_0 rfl (lv_at hl 3 rfl) ?_
  refine lv_iconst (v := 0) hx hb dL_put_1 (by decide) ?_
  refine lv_aload_n hx hb dL_put_2 rfl (lv_at hl 0 rfl) ?_
  refine lv_iload_n hx hb dL_put_3 rfl (lv_at hl 1 rfl) ?_
  refine lv_iload_n hx hb dL_put_4 rfl (lv_at hl 2 rfl) ?_
  refine wx_V (As := [.int v, .int x1]) (rest := [.int 0, .ref qo]) (wr := [(qo, .inl (cL, 1, .inr (.inl o)))]) ⟨hx, hb, hml, hown, hts⟩ (c_X0_put l hfl D q F n R cI cZ _ v x1 hw) (cwV 2 hts gL_put_X0_put rfl rfl rfl (by decide +kernel) ⟨Nat.le_of_ble_eq_true rfl, Nat.le_of_ble_eq_true rfl⟩) ht (hK.sub [0, 1] rfl) hP hD hA [0, 1, 2, 3, 4, 5, 6, 7, 8, 9] [10] rfl rfl (by decide) rfl (by decide) (by decide) (va_recv hK hP (ci := 0) (q0 := 0) rfl rfl) hS rfl hl.1 rfl (Nat.le_of_ble_eq_true rfl) dL_put_5 ⟨Nat.le_of_ble_eq_true rfl, Nat.le_of_ble_eq_true rfl⟩ (fun E ce q9 H locs hE hP hS hce hcv hcl => ?_) (fun r9 u9 H locs h9 hP hD hS => ?_)
  · rcases hE with ⟨rfl, hth⟩ | ⟨rfl, hth⟩
    · skip
      refine vx_catch (name := "java/lang/IndexOutOfBoundsException") hown [] ⟨0, 10, 13, 35⟩ [⟨0, 10, 17, 13⟩] htab (fun z hz => by cases hz) (by decide) (by decide) (hts (.classLink RL 35 "java/lang/IndexOutOfBoundsException") (by decide +kernel)) (bW_use ht.1 _ bw_io) hce hcv hcl ?_
      refine lv_astore (lv' := [(4, .ref q9), (0, .ref (q 9)), (1, .int v), (2, .int x1), (3, .ref qo)]) hx hb dL_put_13 hl (by decide) rfl (fun ls hl => ?_)
      refine lv_iconst (v := 1) hx hb dL_put_15 (by decide) ?_
      refine W.widen (k := 2) (n := 12) (Nat.le_of_ble_eq_true rfl) (Nat.le_of_ble_eq_true rfl) ?_
      exact W.iret hx hb hr (fun t ht9 hW => ⟨⟨_, (F, o), rfl, (by show 1 = thP n v x1 ∧ (thP n v x1 = 0 → (F, o).2 0 = (F 7 (gi v)).toInt64 ∧ (F, o).1 = fP F (gi v) x1) ∧ (¬ thP n v x1 = 0 → (F, o).1 = F); exact ⟨hth.symm, fun h9 => absurd (hth.symm.trans h9) (by decide), fun _ => rfl⟩), by rw [ht9]; exact hP, hD⟩, hS.F ht9⟩) hS.2.2 dL_put_16
    · skip
      refine vx_catch (name := "java/lang/IllegalArgumentException") hown [⟨0, 10, 13, 35⟩] ⟨0, 10, 17, 13⟩ [] htab (fun z hz => by rw [List.mem_singleton.mp hz]; exact Or.inr ⟨by decide, "java/lang/IndexOutOfBoundsException", hts (.classLink RL 35 "java/lang/IndexOutOfBoundsException") (by decide +kernel), hn.2⟩) (by decide) (by decide) (hts (.classLink RL 13 "java/lang/IllegalArgumentException") (by decide +kernel)) (bW_use ht.1 _ bw_ia) hce hcv hcl ?_
      refine lv_astore (lv' := [(4, .ref q9), (0, .ref (q 9)), (1, .int v), (2, .int x1), (3, .ref qo)]) hx hb dL_put_17 hl (by decide) rfl (fun ls hl => ?_)
      refine lv_iconst (v := 2) hx hb dL_put_19 (by decide) ?_
      refine W.widen (k := 2) (n := 12) (Nat.le_of_ble_eq_true rfl) (Nat.le_of_ble_eq_true rfl) ?_
      exact W.iret hx hb hr (fun t ht9 hW => ⟨⟨_, (F, o), rfl, (by show 2 = thP n v x1 ∧ (thP n v x1 = 0 → (F, o).2 0 = (F 7 (gi v)).toInt64 ∧ (F, o).1 = fP F (gi v) x1) ∧ (¬ thP n v x1 = 0 → (F, o).1 = F); exact ⟨hth.symm, fun h9 => absurd (hth.symm.trans h9) (by decide), fun _ => rfl⟩), by rw [ht9]; exact hP, hD⟩, hS.F ht9⟩) hS.2.2 dL_put_20
  · obtain ⟨rfl, rfl, hth⟩ := h9
    have hP : va_P D vwCl (wXo q (fP F (gi v) x1) (nI n) R qo o cI cZ cL) H := hP.sub [1, 2, 3, 4, 5, 6, 7, 8, 9, 10, 0] rfl
    have hD : va_D A (wXo q (fP F (gi v) x1) (nI n) R qo o cI cZ cL) := hD.sub [1, 2, 3, 4, 5, 6, 7, 8, 9, 10, 0] (by decide) rfl
    refine lv_i2l hx hb dL_put_8 rfl ?_
    refine va_last hx hb hK hP hD hS 10 2 rfl rfl (i := 0) (x := (F 7 (gi v)).toInt64) in_01 dL_put_9 (fun H locs hP hD hS => ?_)
    have hP : va_P D vwCl (wXo q (fP F (gi v) x1) (nI n) R qo (vp_updL o (0 : Int32).toNatClampNeg ((F 7 (gi v)).toInt64)) cI cZ cL) H := hP
    have hD : va_D A (wXo q (fP F (gi v) x1) (nI n) R qo (vp_updL o (0 : Int32).toNatClampNeg ((F 7 (gi v)).toInt64)) cI cZ cL) := hD
    refine lv_goto (tgt := 21) hx hb dL_put_10 (by decide) ?_
    refine lv_iconst (v := 0) hx hb dL_put_21 (by decide) ?_
    refine W.widen (k := 2) (n := 12) (Nat.le_of_ble_eq_true rfl) (Nat.le_of_ble_eq_true rfl) ?_
    exact W.iret hx hb hr (fun t ht9 hW => ⟨⟨_, ((fP F (gi v) x1), (vp_updL o (0 : Int32).toNatClampNeg ((F 7 (gi v)).toInt64))), rfl, (by show 0 = thP n v x1 ∧ (thP n v x1 = 0 → ((fP F (gi v) x1), (vp_updL o (0 : Int32).toNatClampNeg ((F 7 (gi v)).toInt64))).2 0 = (F 7 (gi v)).toInt64 ∧ ((fP F (gi v) x1), (vp_updL o (0 : Int32).toNatClampNeg ((F 7 (gi v)).toInt64))).1 = fP F (gi v) x1) ∧ (¬ thP n v x1 = 0 → ((fP F (gi v) x1), (vp_updL o (0 : Int32).toNatClampNeg ((F 7 (gi v)).toInt64))).1 = F); exact ⟨hth.symm, fun _ => ⟨(by first | rfl | (simp [l01, vp_updL]; done)), rfl⟩, fun h9 => absurd hth h9⟩), by rw [ht9]; exact hP, hD⟩, hS.F ht9⟩) hS.2.2 dL_put_22
set_option maxHeartbeats 4000000 in
set_option maxRecDepth 100000 in
theorem c_L_placeOf (l : Launch) (hfl : l.stackTraces = false) (D : va_G) (q : Nat → Nat) (F : Nat → Nat → Int32) (n : Nat) (R : Nat → Int32) (qo : Nat) (o : Nat → Int64) (cI cZ cL : ClassId) (sz : Nat) (v : Int32) (hw : WF F n) : Met l yL_placeOf wsL_placeOf ({ frames := 8, cells := 1, slots := 6, locals := 132 }) (va_Pc [.ref (q 9), .int v, .ref qo] (lS D (wXo q F (nI n) R qo o cI cZ cL) (tIZL cI cZ cL) sz)) (va_Qi (fun (r : Int32) (u : Nat → Int64) => r = th1 n v ∧ (th1 n v = 0 → u 0 = (F 7 (gi v)).toInt64)) (wB D (va_A (wXo q F (nI n) R qo o cI cZ cL) sz) (fun (u : Nat → Int64) => wXo q F (nI n) R qo u cI cZ cL)) (va_A (wXo q F (nI n) R qo o cI cZ cL) sz)) 1 6 (va_A (wXo q F (nI n) R qo o cI cZ cL) sz) := by
  refine l_of (hh := [(0, 9, 12, 35)]) (own := RL) (cc := cL_placeOf) (maxL := 4) (ret := (some .int)) (by decide) rfl rfl (Nat.le_of_ble_eq_true rfl) ?_
  intro p9 e9 s m9 a9 below meth c9 ls A hx hb hr hml hlocks hown hts htab ht hn hP hK hD hA hl
  have hS : va_S nA s.heap s.heap [] := va_S.rf
  have hl : lv_has ls 4 [(0, .ref (q 9)), (1, .int v), (2, .ref qo)] := hl
  refine lv_aload_n hx hb dL_placeOf_0 rfl (lv_at hl 2 rfl) ?_
  refine lv_iconst (v := 0) hx hb dL_placeOf_1 (by decide) ?_
  refine lv_aload_n hx hb dL_placeOf_2 rfl (lv_at hl 0 rfl) ?_
  refine lv_iload_n hx hb dL_placeOf_3 rfl (lv_at hl 1 rfl) ?_
  refine tx_Vi (As := [.int v]) (rest := [.int 0, .ref qo]) ⟨hx, hb, hml, hown, hts⟩ (c_X0_placeOf l hfl D q F n R cI cZ v hw) (cwV 1 hts gL_placeOf_X0_placeOf rfl rfl rfl (by decide +kernel) ⟨Nat.le_of_ble_eq_true rfl, Nat.le_of_ble_eq_true rfl⟩) ht (hK.sub [0, 1] rfl) hP (hP.sub [0, 1, 2, 3, 4, 5, 6, 7, 8, 9] rfl) (va_recv hK hP (ci := 0) (q0 := 0) rfl rfl) hS rfl hl.1 rfl (Nat.le_of_ble_eq_true rfl) dL_placeOf_4 ⟨Nat.le_of_ble_eq_true rfl, Nat.le_of_ble_eq_true rfl⟩ (fun E ce q9 H locs hE hP hS hce hcv hcl => ?_) (fun r9 H locs h9 hP hS => ?_)
  · obtain ⟨rfl, hth⟩ := hE
    refine vx_catch (name := "java/lang/IndexOutOfBoundsException") hown [] ⟨0, 9, 12, 35⟩ [] htab (fun z hz => by cases hz) (by decide) (by decide) (hts (.classLink RL 35 "java/lang/IndexOutOfBoundsException") (by decide +kernel)) (bW_use ht.1 _ bw_io) hce hcv hcl ?_
    refine lv_astore_n (lv' := [(3, .ref q9), (0, .ref (q 9)), (1, .int v), (2, .ref qo)]) hx hb dL_placeOf_12 rfl hl (by decide) rfl (fun ls hl => ?_)
    refine lv_iconst (v := 1) hx hb dL_placeOf_13 (by decide) ?_
    have hS := nA_S (A := A) hS
    refine W.widen (k := 1) (n := 6) (Nat.le_of_ble_eq_true rfl) (Nat.le_of_ble_eq_true rfl) ?_
    exact W.iret hx hb hr (fun t ht9 hW => ⟨⟨_, o, rfl, (by show 1 = th1 n v ∧ (th1 n v = 0 → o 0 = (F 7 (gi v)).toInt64); exact ⟨hth.symm, fun h9 => absurd (hth.symm.trans h9) (by decide)⟩), by rw [ht9]; exact hP, hD⟩, hS.F ht9⟩) hS.2.2 dL_placeOf_14
  · obtain ⟨rfl, hth⟩ := h9
    refine lv_i2l hx hb dL_placeOf_7 rfl ?_
    have hS := nA_S (A := A) hS
    refine va_last hx hb hK hP hD hS 10 2 rfl rfl (i := 0) (x := (F 7 (gi v)).toInt64) in_01 dL_placeOf_8 (fun H locs hP hD hS => ?_)
    have hP : va_P D vwCl (wXo q F (nI n) R qo (vp_updL o (0 : Int32).toNatClampNeg ((F 7 (gi v)).toInt64)) cI cZ cL) H := hP
    have hD : va_D A (wXo q F (nI n) R qo (vp_updL o (0 : Int32).toNatClampNeg ((F 7 (gi v)).toInt64)) cI cZ cL) := hD
    refine lv_goto (tgt := 15) hx hb dL_placeOf_9 (by decide) ?_
    refine lv_iconst (v := 0) hx hb dL_placeOf_15 (by decide) ?_
    refine W.widen (k := 1) (n := 6) (Nat.le_of_ble_eq_true rfl) (Nat.le_of_ble_eq_true rfl) ?_
    exact W.iret hx hb hr (fun t ht9 hW => ⟨⟨_, (vp_updL o (0 : Int32).toNatClampNeg ((F 7 (gi v)).toInt64)), rfl, (by show 0 = th1 n v ∧ (th1 n v = 0 → (vp_updL o (0 : Int32).toNatClampNeg ((F 7 (gi v)).toInt64)) 0 = (F 7 (gi v)).toInt64); exact ⟨hth.symm, fun _ => (by first | rfl | (simp [l01, vp_updL]; done))⟩), by rw [ht9]; exact hP, hD⟩, hS.F ht9⟩) hS.2.2 dL_placeOf_16
set_option maxHeartbeats 4000000 in
set_option maxRecDepth 100000 in
theorem c_L_isLimited (l : Launch) (hfl : l.stackTraces = false) (D : va_G) (q : Nat → Nat) (F : Nat → Nat → Int32) (n : Nat) (R : Nat → Int32) (qo : Nat) (o : Nat → Int64) (cI cZ cL : ClassId) (sz : Nat) (v : Int32) (hw : WF F n) : Met l yL_isLimited wsL_isLimited ({ frames := 8, cells := 1, slots := 6, locals := 132 }) (va_Pc [.ref (q 9), .int v, .ref qo] (lS D (wXo q F (nI n) R qo o cI cZ cL) (tIZL cI cZ cL) sz)) (va_Qi (fun (r : Int32) (u : Nat → Int64) => r = th1 n v ∧ (th1 n v = 0 → u 0 = l01 (sLim F (gi v)))) (wB D (va_A (wXo q F (nI n) R qo o cI cZ cL) sz) (fun (u : Nat → Int64) => wXo q F (nI n) R qo u cI cZ cL)) (va_A (wXo q F (nI n) R qo o cI cZ cL) sz)) 1 6 (va_A (wXo q F (nI n) R qo o cI cZ cL) sz) := by
  refine l_of (hh := [(0, 16, 19, 35)]) (own := RL) (cc := cL_isLimited) (maxL := 4) (ret := (some .int)) (by decide) rfl rfl (Nat.le_of_ble_eq_true rfl) ?_
  intro p9 e9 s m9 a9 below meth c9 ls A hx hb hr hml hlocks hown hts htab ht hn hP hK hD hA hl
  have hS : va_S nA s.heap s.heap [] := va_S.rf
  have hl : lv_has ls 4 [(0, .ref (q 9)), (1, .int v), (2, .ref qo)] := hl
  refine lv_aload_n hx hb dL_isLimited_0 rfl (lv_at hl 2 rfl) ?_
  refine lv_iconst (v := 0) hx hb dL_isLimited_1 (by decide) ?_
  refine lv_aload_n hx hb dL_isLimited_2 rfl (lv_at hl 0 rfl) ?_
  refine lv_iload_n hx hb dL_isLimited_3 rfl (lv_at hl 1 rfl) ?_
  refine tx_Vi (As := [.int v]) (rest := [.int 0, .ref qo]) ⟨hx, hb, hml, hown, hts⟩ (c_X0_isLimited l hfl D q F n R cI cZ v hw) (cwV 1 hts gL_isLimited_X0_isLimited rfl rfl rfl (by decide +kernel) ⟨Nat.le_of_ble_eq_true rfl, Nat.le_of_ble_eq_true rfl⟩) ht (hK.sub [0, 1] rfl) hP (hP.sub [0, 1, 2, 3, 4, 5, 6, 7, 8, 9] rfl) (va_recv hK hP (ci := 0) (q0 := 0) rfl rfl) hS rfl hl.1 rfl (Nat.le_of_ble_eq_true rfl) dL_isLimited_4 ⟨Nat.le_of_ble_eq_true rfl, Nat.le_of_ble_eq_true rfl⟩ (fun E ce q9 H locs hE hP hS hce hcv hcl => ?_) (fun r9 H locs h9 hP hS => ?_)
  · obtain ⟨rfl, hth⟩ := hE
    refine vx_catch (name := "java/lang/IndexOutOfBoundsException") hown [] ⟨0, 16, 19, 35⟩ [] htab (fun z hz => by cases hz) (by decide) (by decide) (hts (.classLink RL 35 "java/lang/IndexOutOfBoundsException") (by decide +kernel)) (bW_use ht.1 _ bw_io) hce hcv hcl ?_
    refine lv_astore_n (lv' := [(3, .ref q9), (0, .ref (q 9)), (1, .int v), (2, .ref qo)]) hx hb dL_isLimited_19 rfl hl (by decide) rfl (fun ls hl => ?_)
    refine lv_iconst (v := 1) hx hb dL_isLimited_20 (by decide) ?_
    have hS := nA_S (A := A) hS
    refine W.widen (k := 1) (n := 6) (Nat.le_of_ble_eq_true rfl) (Nat.le_of_ble_eq_true rfl) ?_
    exact W.iret hx hb hr (fun t ht9 hW => ⟨⟨_, o, rfl, (by show 1 = th1 n v ∧ (th1 n v = 0 → o 0 = l01 (sLim F (gi v))); exact ⟨hth.symm, fun h9 => absurd (hth.symm.trans h9) (by decide)⟩), by rw [ht9]; exact hP, hD⟩, hS.F ht9⟩) hS.2.2 dL_isLimited_21
  · obtain ⟨rfl, hth⟩ := h9
    refine lv_if_eq (x := (bi (sLim F (gi v)))) (tgt := 14) hx hb dL_isLimited_7 (by decide) (fun c_7 => ?_) (fun c_7 => ?_)
    · have c_7 := bi_e0.mp c_7
      refine lv_lconst (v := 0) hx hb dL_isLimited_14 rfl ?_
      have hS := nA_S (A := A) hS
      refine va_last hx hb hK hP hD hS 10 2 rfl rfl (i := 0) (x := 0) in_01 dL_isLimited_15 (fun H locs hP hD hS => ?_)
      have hP : va_P D vwCl (wXo q F (nI n) R qo (vp_updL o (0 : Int32).toNatClampNeg 0) cI cZ cL) H := hP
      have hD : va_D A (wXo q F (nI n) R qo (vp_updL o (0 : Int32).toNatClampNeg 0) cI cZ cL) := hD
      refine lv_goto (tgt := 22) hx hb dL_isLimited_16 (by decide) ?_
      refine lv_iconst (v := 0) hx hb dL_isLimited_22 (by decide) ?_
      refine W.widen (k := 1) (n := 6) (Nat.le_of_ble_eq_true rfl) (Nat.le_of_ble_eq_true rfl) ?_
      exact W.iret hx hb hr (fun t ht9 hW => ⟨⟨_, (vp_updL o (0 : Int32).toNatClampNeg 0), rfl, (by show 0 = th1 n v ∧ (th1 n v = 0 → (vp_updL o (0 : Int32).toNatClampNeg 0) 0 = l01 (sLim F (gi v))); exact ⟨hth.symm, fun _ => (by first | rfl | (simp [l01, vp_updL, c_7]; done))⟩), by rw [ht9]; exact hP, hD⟩, hS.F ht9⟩) hS.2.2 dL_isLimited_23
    · have c_7 := bi_n0.mp c_7
      refine lv_lconst (v := 1) hx hb dL_isLimited_10 rfl ?_
      refine lv_goto (tgt := 15) hx hb dL_isLimited_11 (by decide) ?_
      have hS := nA_S (A := A) hS
      refine va_last hx hb hK hP hD hS 10 2 rfl rfl (i := 0) (x := 1) in_01 dL_isLimited_15 (fun H locs hP hD hS => ?_)
      have hP : va_P D vwCl (wXo q F (nI n) R qo (vp_updL o (0 : Int32).toNatClampNeg 1) cI cZ cL) H := hP
      have hD : va_D A (wXo q F (nI n) R qo (vp_updL o (0 : Int32).toNatClampNeg 1) cI cZ cL) := hD
      refine lv_goto (tgt := 22) hx hb dL_isLimited_16 (by decide) ?_
      refine lv_iconst (v := 0) hx hb dL_isLimited_22 (by decide) ?_
      refine W.widen (k := 1) (n := 6) (Nat.le_of_ble_eq_true rfl) (Nat.le_of_ble_eq_true rfl) ?_
      exact W.iret hx hb hr (fun t ht9 hW => ⟨⟨_, (vp_updL o (0 : Int32).toNatClampNeg 1), rfl, (by show 0 = th1 n v ∧ (th1 n v = 0 → (vp_updL o (0 : Int32).toNatClampNeg 1) 0 = l01 (sLim F (gi v))); exact ⟨hth.symm, fun _ => (by first | rfl | (simp [l01, vp_updL, c_7]; done))⟩), by rw [ht9]; exact hP, hD⟩, hS.F ht9⟩) hS.2.2 dL_isLimited_23
set_option maxHeartbeats 4000000 in
set_option maxRecDepth 100000 in
theorem c_L_isExcepted (l : Launch) (hfl : l.stackTraces = false) (D : va_G) (q : Nat → Nat) (F : Nat → Nat → Int32) (n : Nat) (R : Nat → Int32) (qo : Nat) (o : Nat → Int64) (cI cZ cL : ClassId) (sz : Nat) (v : Int32) (hw : WF F n) : Met l yL_isExcepted wsL_isExcepted ({ frames := 8, cells := 1, slots := 6, locals := 132 }) (va_Pc [.ref (q 9), .int v, .ref qo] (lS D (wXo q F (nI n) R qo o cI cZ cL) (tIZL cI cZ cL) sz)) (va_Qi (fun (r : Int32) (u : Nat → Int64) => r = th1 n v ∧ (th1 n v = 0 → u 0 = l01 (sExc F (gi v)))) (wB D (va_A (wXo q F (nI n) R qo o cI cZ cL) sz) (fun (u : Nat → Int64) => wXo q F (nI n) R qo u cI cZ cL)) (va_A (wXo q F (nI n) R qo o cI cZ cL) sz)) 1 6 (va_A (wXo q F (nI n) R qo o cI cZ cL) sz) := by
  refine l_of (hh := [(0, 16, 19, 35)]) (own := RL) (cc := cL_isExcepted) (maxL := 4) (ret := (some .int)) (by decide) rfl rfl (Nat.le_of_ble_eq_true rfl) ?_
  intro p9 e9 s m9 a9 below meth c9 ls A hx hb hr hml hlocks hown hts htab ht hn hP hK hD hA hl
  have hS : va_S nA s.heap s.heap [] := va_S.rf
  have hl : lv_has ls 4 [(0, .ref (q 9)), (1, .int v), (2, .ref qo)] := hl
  refine lv_aload_n hx hb dL_isExcepted_0 rfl (lv_at hl 2 rfl) ?_
  refine lv_iconst (v := 0) hx hb dL_isExcepted_1 (by decide) ?_
  refine lv_aload_n hx hb dL_isExcepted_2 rfl (lv_at hl 0 rfl) ?_
  refine lv_iload_n hx hb dL_isExcepted_3 rfl (lv_at hl 1 rfl) ?_
  refine tx_Vi (As := [.int v]) (rest := [.int 0, .ref qo]) ⟨hx, hb, hml, hown, hts⟩ (c_X0_isExcepted l hfl D q F n R cI cZ v hw) (cwV 1 hts gL_isExcepted_X0_isExcepted rfl rfl rfl (by decide +kernel) ⟨Nat.le_of_ble_eq_true rfl, Nat.le_of_ble_eq_true rfl⟩) ht (hK.sub [0, 1] rfl) hP (hP.sub [0, 1, 2, 3, 4, 5, 6, 7, 8, 9] rfl) (va_recv hK hP (ci := 0) (q0 := 0) rfl rfl) hS rfl hl.1 rfl (Nat.le_of_ble_eq_true rfl) dL_isExcepted_4 ⟨Nat.le_of_ble_eq_true rfl, Nat.le_of_ble_eq_true rfl⟩ (fun E ce q9 H locs hE hP hS hce hcv hcl => ?_) (fun r9 H locs h9 hP hS => ?_)
  · obtain ⟨rfl, hth⟩ := hE
    refine vx_catch (name := "java/lang/IndexOutOfBoundsException") hown [] ⟨0, 16, 19, 35⟩ [] htab (fun z hz => by cases hz) (by decide) (by decide) (hts (.classLink RL 35 "java/lang/IndexOutOfBoundsException") (by decide +kernel)) (bW_use ht.1 _ bw_io) hce hcv hcl ?_
    refine lv_astore_n (lv' := [(3, .ref q9), (0, .ref (q 9)), (1, .int v), (2, .ref qo)]) hx hb dL_isExcepted_19 rfl hl (by decide) rfl (fun ls hl => ?_)
    refine lv_iconst (v := 1) hx hb dL_isExcepted_20 (by decide) ?_
    have hS := nA_S (A := A) hS
    refine W.widen (k := 1) (n := 6) (Nat.le_of_ble_eq_true rfl) (Nat.le_of_ble_eq_true rfl) ?_
    exact W.iret hx hb hr (fun t ht9 hW => ⟨⟨_, o, rfl, (by show 1 = th1 n v ∧ (th1 n v = 0 → o 0 = l01 (sExc F (gi v))); exact ⟨hth.symm, fun h9 => absurd (hth.symm.trans h9) (by decide)⟩), by rw [ht9]; exact hP, hD⟩, hS.F ht9⟩) hS.2.2 dL_isExcepted_21
  · obtain ⟨rfl, hth⟩ := h9
    refine lv_if_eq (x := (bi (sExc F (gi v)))) (tgt := 14) hx hb dL_isExcepted_7 (by decide) (fun c_7 => ?_) (fun c_7 => ?_)
    · have c_7 := bi_e0.mp c_7
      refine lv_lconst (v := 0) hx hb dL_isExcepted_14 rfl ?_
      have hS := nA_S (A := A) hS
      refine va_last hx hb hK hP hD hS 10 2 rfl rfl (i := 0) (x := 0) in_01 dL_isExcepted_15 (fun H locs hP hD hS => ?_)
      have hP : va_P D vwCl (wXo q F (nI n) R qo (vp_updL o (0 : Int32).toNatClampNeg 0) cI cZ cL) H := hP
      have hD : va_D A (wXo q F (nI n) R qo (vp_updL o (0 : Int32).toNatClampNeg 0) cI cZ cL) := hD
      refine lv_goto (tgt := 22) hx hb dL_isExcepted_16 (by decide) ?_
      refine lv_iconst (v := 0) hx hb dL_isExcepted_22 (by decide) ?_
      refine W.widen (k := 1) (n := 6) (Nat.le_of_ble_eq_true rfl) (Nat.le_of_ble_eq_true rfl) ?_
      exact W.iret hx hb hr (fun t ht9 hW => ⟨⟨_, (vp_updL o (0 : Int32).toNatClampNeg 0), rfl, (by show 0 = th1 n v ∧ (th1 n v = 0 → (vp_updL o (0 : Int32).toNatClampNeg 0) 0 = l01 (sExc F (gi v))); exact ⟨hth.symm, fun _ => (by first | rfl | (simp [l01, vp_updL, c_7]; done))⟩), by rw [ht9]; exact hP, hD⟩, hS.F ht9⟩) hS.2.2 dL_isExcepted_23
    · have c_7 := bi_n0.mp c_7
      refine lv_lconst (v := 1) hx hb dL_isExcepted_10 rfl ?_
      refine lv_goto (tgt := 15) hx hb dL_isExcepted_11 (by decide) ?_
      have hS := nA_S (A := A) hS
      refine va_last hx hb hK hP hD hS 10 2 rfl rfl (i := 0) (x := 1) in_01 dL_isExcepted_15 (fun H locs hP hD hS => ?_)
      have hP : va_P D vwCl (wXo q F (nI n) R qo (vp_updL o (0 : Int32).toNatClampNeg 1) cI cZ cL) H := hP
      have hD : va_D A (wXo q F (nI n) R qo (vp_updL o (0 : Int32).toNatClampNeg 1) cI cZ cL) := hD
      refine lv_goto (tgt := 22) hx hb dL_isExcepted_16 (by decide) ?_
      refine lv_iconst (v := 0) hx hb dL_isExcepted_22 (by decide) ?_
      refine W.widen (k := 1) (n := 6) (Nat.le_of_ble_eq_true rfl) (Nat.le_of_ble_eq_true rfl) ?_
      exact W.iret hx hb hr (fun t ht9 hW => ⟨⟨_, (vp_updL o (0 : Int32).toNatClampNeg 1), rfl, (by show 0 = th1 n v ∧ (th1 n v = 0 → (vp_updL o (0 : Int32).toNatClampNeg 1) 0 = l01 (sExc F (gi v))); exact ⟨hth.symm, fun _ => (by first | rfl | (simp [l01, vp_updL, c_7]; done))⟩), by rw [ht9]; exact hP, hD⟩, hS.F ht9⟩) hS.2.2 dL_isExcepted_23
set_option maxHeartbeats 4000000 in
set_option maxRecDepth 100000 in
theorem c_L_need (l : Launch) (hfl : l.stackTraces = false) (D : va_G) (q : Nat → Nat) (F : Nat → Nat → Int32) (n : Nat) (R : Nat → Int32) (qo : Nat) (o : Nat → Int64) (cI cZ cL : ClassId) (sz : Nat) (v : Int32) (w : Int32) (hw : WF F n) : Met l yL_need wsL_need ({ frames := 9, cells := 3, slots := 18, locals := 155 }) (va_Pc [.ref (q 9), .int v, .int w, .ref qo] (lS D (wXo q F (nI n) R qo o cI cZ cL) (tIZL cI cZ cL) sz)) (va_Qi (fun (r : Int32) (u : Nat → Int64) => r = th2 n v w ∧ (th2 n v w = 0 → u 0 = (sNeed F (gi v) (gi w)).toInt64)) (wB D (va_A (wXo q F (nI n) R qo o cI cZ cL) sz) (fun (u : Nat → Int64) => wXo q F (nI n) R qo u cI cZ cL)) (va_A (wXo q F (nI n) R qo o cI cZ cL) sz)) 3 18 (va_A (wXo q F (nI n) R qo o cI cZ cL) sz) := by
  refine l_of (hh := [(0, 10, 13, 35), (0, 10, 17, 13)]) (own := RL) (cc := cL_need) (maxL := 5) (ret := (some .int)) (by decide) rfl rfl (Nat.le_of_ble_eq_true rfl) ?_
  intro p9 e9 s m9 a9 below meth c9 ls A hx hb hr hml hlocks hown hts htab ht hn hP hK hD hA hl
  have hS : va_S nA s.heap s.heap [] := va_S.rf
  have hl : lv_has ls 5 [(0, .ref (q 9)), (1, .int v), (2, .int w), (3, .ref qo)] := hl
  refine lv_aload_n hx hb dL_need_0 rfl (lv_at hl 3 rfl) ?_
  refine lv_iconst (v := 0) hx hb dL_need_1 (by decide) ?_
  refine lv_aload_n hx hb dL_need_2 rfl (lv_at hl 0 rfl) ?_
  refine lv_iload_n hx hb dL_need_3 rfl (lv_at hl 1 rfl) ?_
  refine lv_iload_n hx hb dL_need_4 rfl (lv_at hl 2 rfl) ?_
  refine tx_Vi (As := [.int v, .int w]) (rest := [.int 0, .ref qo]) ⟨hx, hb, hml, hown, hts⟩ (c_X0_need l hfl D q F n R cI cZ v w hw) (cwV 2 hts gL_need_X0_need rfl rfl rfl (by decide +kernel) ⟨Nat.le_of_ble_eq_true rfl, Nat.le_of_ble_eq_true rfl⟩) ht (hK.sub [0, 1] rfl) hP (hP.sub [0, 1, 2, 3, 4, 5, 6, 7, 8, 9] rfl) (va_recv hK hP (ci := 0) (q0 := 0) rfl rfl) hS rfl hl.1 rfl (Nat.le_of_ble_eq_true rfl) dL_need_5 ⟨Nat.le_of_ble_eq_true rfl, Nat.le_of_ble_eq_true rfl⟩ (fun E ce q9 H locs hE hP hS hce hcv hcl => ?_) (fun r9 H locs h9 hP hS => ?_)
  · rcases hE with ⟨rfl, hth⟩ | ⟨rfl, hth⟩
    · skip
      refine vx_catch (name := "java/lang/IndexOutOfBoundsException") hown [] ⟨0, 10, 13, 35⟩ [⟨0, 10, 17, 13⟩] htab (fun z hz => by cases hz) (by decide) (by decide) (hts (.classLink RL 35 "java/lang/IndexOutOfBoundsException") (by decide +kernel)) (bW_use ht.1 _ bw_io) hce hcv hcl ?_
      refine lv_astore (lv' := [(4, .ref q9), (0, .ref (q 9)), (1, .int v), (2, .int w), (3, .ref qo)]) hx hb dL_need_13 hl (by decide) rfl (fun ls hl => ?_)
      refine lv_iconst (v := 1) hx hb dL_need_15 (by decide) ?_
      have hS := nA_S (A := A) hS
      refine W.widen (k := 3) (n := 18) (Nat.le_of_ble_eq_true rfl) (Nat.le_of_ble_eq_true rfl) ?_
      exact W.iret hx hb hr (fun t ht9 hW => ⟨⟨_, o, rfl, (by show 1 = th2 n v w ∧ (th2 n v w = 0 → o 0 = (sNeed F (gi v) (gi w)).toInt64); exact ⟨hth.symm, fun h9 => absurd (hth.symm.trans h9) (by decide)⟩), by rw [ht9]; exact hP, hD⟩, hS.F ht9⟩) hS.2.2 dL_need_16
    · skip
      refine vx_catch (name := "java/lang/IllegalArgumentException") hown [⟨0, 10, 13, 35⟩] ⟨0, 10, 17, 13⟩ [] htab (fun z hz => by rw [List.mem_singleton.mp hz]; exact Or.inr ⟨by decide, "java/lang/IndexOutOfBoundsException", hts (.classLink RL 35 "java/lang/IndexOutOfBoundsException") (by decide +kernel), hn.2⟩) (by decide) (by decide) (hts (.classLink RL 13 "java/lang/IllegalArgumentException") (by decide +kernel)) (bW_use ht.1 _ bw_ia) hce hcv hcl ?_
      refine lv_astore (lv' := [(4, .ref q9), (0, .ref (q 9)), (1, .int v), (2, .int w), (3, .ref qo)]) hx hb dL_need_17 hl (by decide) rfl (fun ls hl => ?_)
      refine lv_iconst (v := 2) hx hb dL_need_19 (by decide) ?_
      have hS := nA_S (A := A) hS
      refine W.widen (k := 3) (n := 18) (Nat.le_of_ble_eq_true rfl) (Nat.le_of_ble_eq_true rfl) ?_
      exact W.iret hx hb hr (fun t ht9 hW => ⟨⟨_, o, rfl, (by show 2 = th2 n v w ∧ (th2 n v w = 0 → o 0 = (sNeed F (gi v) (gi w)).toInt64); exact ⟨hth.symm, fun h9 => absurd (hth.symm.trans h9) (by decide)⟩), by rw [ht9]; exact hP, hD⟩, hS.F ht9⟩) hS.2.2 dL_need_20
  · obtain ⟨rfl, hth⟩ := h9
    refine lv_i2l hx hb dL_need_8 rfl ?_
    have hS := nA_S (A := A) hS
    refine va_last hx hb hK hP hD hS 10 2 rfl rfl (i := 0) (x := (sNeed F (gi v) (gi w)).toInt64) in_01 dL_need_9 (fun H locs hP hD hS => ?_)
    have hP : va_P D vwCl (wXo q F (nI n) R qo (vp_updL o (0 : Int32).toNatClampNeg ((sNeed F (gi v) (gi w)).toInt64)) cI cZ cL) H := hP
    have hD : va_D A (wXo q F (nI n) R qo (vp_updL o (0 : Int32).toNatClampNeg ((sNeed F (gi v) (gi w)).toInt64)) cI cZ cL) := hD
    refine lv_goto (tgt := 21) hx hb dL_need_10 (by decide) ?_
    refine lv_iconst (v := 0) hx hb dL_need_21 (by decide) ?_
    refine W.widen (k := 3) (n := 18) (Nat.le_of_ble_eq_true rfl) (Nat.le_of_ble_eq_true rfl) ?_
    exact W.iret hx hb hr (fun t ht9 hW => ⟨⟨_, (vp_updL o (0 : Int32).toNatClampNeg ((sNeed F (gi v) (gi w)).toInt64)), rfl, (by show 0 = th2 n v w ∧ (th2 n v w = 0 → (vp_updL o (0 : Int32).toNatClampNeg ((sNeed F (gi v) (gi w)).toInt64)) 0 = (sNeed F (gi v) (gi w)).toInt64); exact ⟨hth.symm, fun _ => (by first | rfl | (simp [l01, vp_updL]; done))⟩), by rw [ht9]; exact hP, hD⟩, hS.F ht9⟩) hS.2.2 dL_need_22
set_option maxHeartbeats 4000000 in
set_option maxRecDepth 100000 in
theorem c_L_areInBreach (l : Launch) (hfl : l.stackTraces = false) (D : va_G) (q : Nat → Nat) (F : Nat → Nat → Int32) (n : Nat) (R : Nat → Int32) (qo : Nat) (o : Nat → Int64) (cI cZ cL : ClassId) (sz : Nat) (v : Int32) (w : Int32) (hw : WF F n) : Met l yL_areInBreach wsL_areInBreach ({ frames := 9, cells := 3, slots := 18, locals := 155 }) (va_Pc [.ref (q 9), .int v, .int w, .ref qo] (lS D (wXo q F (nI n) R qo o cI cZ cL) (tIZL cI cZ cL) sz)) (va_Qi (fun (r : Int32) (u : Nat → Int64) => r = th2 n v w ∧ (th2 n v w = 0 → u 0 = l01 (sBreach F (gi v) (F 7 (gi v)) (gi w)))) (wB D (va_A (wXo q F (nI n) R qo o cI cZ cL) sz) (fun (u : Nat → Int64) => wXo q F (nI n) R qo u cI cZ cL)) (va_A (wXo q F (nI n) R qo o cI cZ cL) sz)) 3 18 (va_A (wXo q F (nI n) R qo o cI cZ cL) sz) := by
  refine l_of (hh := [(0, 17, 20, 35), (0, 17, 24, 13)]) (own := RL) (cc := cL_areInBreach) (maxL := 5) (ret := (some .int)) (by decide) rfl rfl (Nat.le_of_ble_eq_true rfl) ?_
  intro p9 e9 s m9 a9 below meth c9 ls A hx hb hr hml hlocks hown hts htab ht hn hP hK hD hA hl
  have hS : va_S nA s.heap s.heap [] := va_S.rf
  have hl : lv_has ls 5 [(0, .ref (q 9)), (1, .int v), (2, .int w), (3, .ref qo)] := hl
  refine lv_aload_n hx hb dL_areInBreach_0 rfl (lv_at hl 3 rfl) ?_
  refine lv_iconst (v := 0) hx hb dL_areInBreach_1 (by decide) ?_
  refine lv_aload_n hx hb dL_areInBreach_2 rfl (lv_at hl 0 rfl) ?_
  refine lv_iload_n hx hb dL_areInBreach_3 rfl (lv_at hl 1 rfl) ?_
  refine lv_iload_n hx hb dL_areInBreach_4 rfl (lv_at hl 2 rfl) ?_
  refine tx_Vi (As := [.int v, .int w]) (rest := [.int 0, .ref qo]) ⟨hx, hb, hml, hown, hts⟩ (c_X0_areInBreach l hfl D q F n R cI cZ v w hw) (cwV 2 hts gL_areInBreach_X0_areInBreach rfl rfl rfl (by decide +kernel) ⟨Nat.le_of_ble_eq_true rfl, Nat.le_of_ble_eq_true rfl⟩) ht (hK.sub [0, 1] rfl) hP (hP.sub [0, 1, 2, 3, 4, 5, 6, 7, 8, 9] rfl) (va_recv hK hP (ci := 0) (q0 := 0) rfl rfl) hS rfl hl.1 rfl (Nat.le_of_ble_eq_true rfl) dL_areInBreach_5 ⟨Nat.le_of_ble_eq_true rfl, Nat.le_of_ble_eq_true rfl⟩ (fun E ce q9 H locs hE hP hS hce hcv hcl => ?_) (fun r9 H locs h9 hP hS => ?_)
  · rcases hE with ⟨rfl, hth⟩ | ⟨rfl, hth⟩
    · skip
      refine vx_catch (name := "java/lang/IndexOutOfBoundsException") hown [] ⟨0, 17, 20, 35⟩ [⟨0, 17, 24, 13⟩] htab (fun z hz => by cases hz) (by decide) (by decide) (hts (.classLink RL 35 "java/lang/IndexOutOfBoundsException") (by decide +kernel)) (bW_use ht.1 _ bw_io) hce hcv hcl ?_
      refine lv_astore (lv' := [(4, .ref q9), (0, .ref (q 9)), (1, .int v), (2, .int w), (3, .ref qo)]) hx hb dL_areInBreach_20 hl (by decide) rfl (fun ls hl => ?_)
      refine lv_iconst (v := 1) hx hb dL_areInBreach_22 (by decide) ?_
      have hS := nA_S (A := A) hS
      refine W.widen (k := 3) (n := 18) (Nat.le_of_ble_eq_true rfl) (Nat.le_of_ble_eq_true rfl) ?_
      exact W.iret hx hb hr (fun t ht9 hW => ⟨⟨_, o, rfl, (by show 1 = th2 n v w ∧ (th2 n v w = 0 → o 0 = l01 (sBreach F (gi v) (F 7 (gi v)) (gi w))); exact ⟨hth.symm, fun h9 => absurd (hth.symm.trans h9) (by decide)⟩), by rw [ht9]; exact hP, hD⟩, hS.F ht9⟩) hS.2.2 dL_areInBreach_23
    · skip
      refine vx_catch (name := "java/lang/IllegalArgumentException") hown [⟨0, 17, 20, 35⟩] ⟨0, 17, 24, 13⟩ [] htab (fun z hz => by rw [List.mem_singleton.mp hz]; exact Or.inr ⟨by decide, "java/lang/IndexOutOfBoundsException", hts (.classLink RL 35 "java/lang/IndexOutOfBoundsException") (by decide +kernel), hn.2⟩) (by decide) (by decide) (hts (.classLink RL 13 "java/lang/IllegalArgumentException") (by decide +kernel)) (bW_use ht.1 _ bw_ia) hce hcv hcl ?_
      refine lv_astore (lv' := [(4, .ref q9), (0, .ref (q 9)), (1, .int v), (2, .int w), (3, .ref qo)]) hx hb dL_areInBreach_24 hl (by decide) rfl (fun ls hl => ?_)
      refine lv_iconst (v := 2) hx hb dL_areInBreach_26 (by decide) ?_
      have hS := nA_S (A := A) hS
      refine W.widen (k := 3) (n := 18) (Nat.le_of_ble_eq_true rfl) (Nat.le_of_ble_eq_true rfl) ?_
      exact W.iret hx hb hr (fun t ht9 hW => ⟨⟨_, o, rfl, (by show 2 = th2 n v w ∧ (th2 n v w = 0 → o 0 = l01 (sBreach F (gi v) (F 7 (gi v)) (gi w))); exact ⟨hth.symm, fun h9 => absurd (hth.symm.trans h9) (by decide)⟩), by rw [ht9]; exact hP, hD⟩, hS.F ht9⟩) hS.2.2 dL_areInBreach_27
  · obtain ⟨rfl, hth⟩ := h9
    refine lv_if_eq (x := (bi (sBreach F (gi v) (F 7 (gi v)) (gi w)))) (tgt := 15) hx hb dL_areInBreach_8 (by decide) (fun c_8 => ?_) (fun c_8 => ?_)
    · have c_8 := bi_e0.mp c_8
      refine lv_lconst (v := 0) hx hb dL_areInBreach_15 rfl ?_
      have hS := nA_S (A := A) hS
      refine va_last hx hb hK hP hD hS 10 2 rfl rfl (i := 0) (x := 0) in_01 dL_areInBreach_16 (fun H locs hP hD hS => ?_)
      have hP : va_P D vwCl (wXo q F (nI n) R qo (vp_updL o (0 : Int32).toNatClampNeg 0) cI cZ cL) H := hP
      have hD : va_D A (wXo q F (nI n) R qo (vp_updL o (0 : Int32).toNatClampNeg 0) cI cZ cL) := hD
      refine lv_goto (tgt := 28) hx hb dL_areInBreach_17 (by decide) ?_
      refine lv_iconst (v := 0) hx hb dL_areInBreach_28 (by decide) ?_
      refine W.widen (k := 3) (n := 18) (Nat.le_of_ble_eq_true rfl) (Nat.le_of_ble_eq_true rfl) ?_
      exact W.iret hx hb hr (fun t ht9 hW => ⟨⟨_, (vp_updL o (0 : Int32).toNatClampNeg 0), rfl, (by show 0 = th2 n v w ∧ (th2 n v w = 0 → (vp_updL o (0 : Int32).toNatClampNeg 0) 0 = l01 (sBreach F (gi v) (F 7 (gi v)) (gi w))); exact ⟨hth.symm, fun _ => (by first | rfl | (simp [l01, vp_updL, c_8]; done))⟩), by rw [ht9]; exact hP, hD⟩, hS.F ht9⟩) hS.2.2 dL_areInBreach_29
    · have c_8 := bi_n0.mp c_8
      refine lv_lconst (v := 1) hx hb dL_areInBreach_11 rfl ?_
      refine lv_goto (tgt := 16) hx hb dL_areInBreach_12 (by decide) ?_
      have hS := nA_S (A := A) hS
      refine va_last hx hb hK hP hD hS 10 2 rfl rfl (i := 0) (x := 1) in_01 dL_areInBreach_16 (fun H locs hP hD hS => ?_)
      have hP : va_P D vwCl (wXo q F (nI n) R qo (vp_updL o (0 : Int32).toNatClampNeg 1) cI cZ cL) H := hP
      have hD : va_D A (wXo q F (nI n) R qo (vp_updL o (0 : Int32).toNatClampNeg 1) cI cZ cL) := hD
      refine lv_goto (tgt := 28) hx hb dL_areInBreach_17 (by decide) ?_
      refine lv_iconst (v := 0) hx hb dL_areInBreach_28 (by decide) ?_
      refine W.widen (k := 3) (n := 18) (Nat.le_of_ble_eq_true rfl) (Nat.le_of_ble_eq_true rfl) ?_
      exact W.iret hx hb hr (fun t ht9 hW => ⟨⟨_, (vp_updL o (0 : Int32).toNatClampNeg 1), rfl, (by show 0 = th2 n v w ∧ (th2 n v w = 0 → (vp_updL o (0 : Int32).toNatClampNeg 1) 0 = l01 (sBreach F (gi v) (F 7 (gi v)) (gi w))); exact ⟨hth.symm, fun _ => (by first | rfl | (simp [l01, vp_updL, c_8]; done))⟩), by rw [ht9]; exact hP, hD⟩, hS.F ht9⟩) hS.2.2 dL_areInBreach_29
set_option maxHeartbeats 4000000 in
set_option maxRecDepth 100000 in
theorem c_L_isMisplaced (l : Launch) (hfl : l.stackTraces = false) (D : va_G) (q : Nat → Nat) (F : Nat → Nat → Int32) (n : Nat) (R : Nat → Int32) (qo : Nat) (o : Nat → Int64) (cI cZ cL : ClassId) (sz : Nat) (v : Int32) (hw : WF F n) : Met l yL_isMisplaced wsL_isMisplaced ({ frames := 8, cells := 1, slots := 6, locals := 132 }) (va_Pc [.ref (q 9), .int v, .ref qo] (lS D (wXo q F (nI n) R qo o cI cZ cL) (tIZL cI cZ cL) sz)) (va_Qi (fun (r : Int32) (u : Nat → Int64) => r = th1 n v ∧ (th1 n v = 0 → u 0 = l01 (sMis F (gi v) (F 7 (gi v))))) (wB D (va_A (wXo q F (nI n) R qo o cI cZ cL) sz) (fun (u : Nat → Int64) => wXo q F (nI n) R qo u cI cZ cL)) (va_A (wXo q F (nI n) R qo o cI cZ cL) sz)) 1 6 (va_A (wXo q F (nI n) R qo o cI cZ cL) sz) := by
  refine l_of (hh := [(0, 16, 19, 35)]) (own := RL) (cc := cL_isMisplaced) (maxL := 4) (ret := (some .int)) (by decide) rfl rfl (Nat.le_of_ble_eq_true rfl) ?_
  intro p9 e9 s m9 a9 below meth c9 ls A hx hb hr hml hlocks hown hts htab ht hn hP hK hD hA hl
  have hS : va_S nA s.heap s.heap [] := va_S.rf
  have hl : lv_has ls 4 [(0, .ref (q 9)), (1, .int v), (2, .ref qo)] := hl
  refine lv_aload_n hx hb dL_isMisplaced_0 rfl (lv_at hl 2 rfl) ?_
  refine lv_iconst (v := 0) hx hb dL_isMisplaced_1 (by decide) ?_
  refine lv_aload_n hx hb dL_isMisplaced_2 rfl (lv_at hl 0 rfl) ?_
  refine lv_iload_n hx hb dL_isMisplaced_3 rfl (lv_at hl 1 rfl) ?_
  refine tx_Vi (As := [.int v]) (rest := [.int 0, .ref qo]) ⟨hx, hb, hml, hown, hts⟩ (c_X0_isMisplaced l hfl D q F n R cI cZ v hw) (cwV 1 hts gL_isMisplaced_X0_isMisplaced rfl rfl rfl (by decide +kernel) ⟨Nat.le_of_ble_eq_true rfl, Nat.le_of_ble_eq_true rfl⟩) ht (hK.sub [0, 1] rfl) hP (hP.sub [0, 1, 2, 3, 4, 5, 6, 7, 8, 9] rfl) (va_recv hK hP (ci := 0) (q0 := 0) rfl rfl) hS rfl hl.1 rfl (Nat.le_of_ble_eq_true rfl) dL_isMisplaced_4 ⟨Nat.le_of_ble_eq_true rfl, Nat.le_of_ble_eq_true rfl⟩ (fun E ce q9 H locs hE hP hS hce hcv hcl => ?_) (fun r9 H locs h9 hP hS => ?_)
  · obtain ⟨rfl, hth⟩ := hE
    refine vx_catch (name := "java/lang/IndexOutOfBoundsException") hown [] ⟨0, 16, 19, 35⟩ [] htab (fun z hz => by cases hz) (by decide) (by decide) (hts (.classLink RL 35 "java/lang/IndexOutOfBoundsException") (by decide +kernel)) (bW_use ht.1 _ bw_io) hce hcv hcl ?_
    refine lv_astore_n (lv' := [(3, .ref q9), (0, .ref (q 9)), (1, .int v), (2, .ref qo)]) hx hb dL_isMisplaced_19 rfl hl (by decide) rfl (fun ls hl => ?_)
    refine lv_iconst (v := 1) hx hb dL_isMisplaced_20 (by decide) ?_
    have hS := nA_S (A := A) hS
    refine W.widen (k := 1) (n := 6) (Nat.le_of_ble_eq_true rfl) (Nat.le_of_ble_eq_true rfl) ?_
    exact W.iret hx hb hr (fun t ht9 hW => ⟨⟨_, o, rfl, (by show 1 = th1 n v ∧ (th1 n v = 0 → o 0 = l01 (sMis F (gi v) (F 7 (gi v)))); exact ⟨hth.symm, fun h9 => absurd (hth.symm.trans h9) (by decide)⟩), by rw [ht9]; exact hP, hD⟩, hS.F ht9⟩) hS.2.2 dL_isMisplaced_21
  · obtain ⟨rfl, hth⟩ := h9
    refine lv_if_eq (x := (bi (sMis F (gi v) (F 7 (gi v))))) (tgt := 14) hx hb dL_isMisplaced_7 (by decide) (fun c_7 => ?_) (fun c_7 => ?_)
    · have c_7 := bi_e0.mp c_7
      refine lv_lconst (v := 0) hx hb dL_isMisplaced_14 rfl ?_
      have hS := nA_S (A := A) hS
      refine va_last hx hb hK hP hD hS 10 2 rfl rfl (i := 0) (x := 0) in_01 dL_isMisplaced_15 (fun H locs hP hD hS => ?_)
      have hP : va_P D vwCl (wXo q F (nI n) R qo (vp_updL o (0 : Int32).toNatClampNeg 0) cI cZ cL) H := hP
      have hD : va_D A (wXo q F (nI n) R qo (vp_updL o (0 : Int32).toNatClampNeg 0) cI cZ cL) := hD
      refine lv_goto (tgt := 22) hx hb dL_isMisplaced_16 (by decide) ?_
      refine lv_iconst (v := 0) hx hb dL_isMisplaced_22 (by decide) ?_
      refine W.widen (k := 1) (n := 6) (Nat.le_of_ble_eq_true rfl) (Nat.le_of_ble_eq_true rfl) ?_
      exact W.iret hx hb hr (fun t ht9 hW => ⟨⟨_, (vp_updL o (0 : Int32).toNatClampNeg 0), rfl, (by show 0 = th1 n v ∧ (th1 n v = 0 → (vp_updL o (0 : Int32).toNatClampNeg 0) 0 = l01 (sMis F (gi v) (F 7 (gi v)))); exact ⟨hth.symm, fun _ => (by first | rfl | (simp [l01, vp_updL, c_7]; done))⟩), by rw [ht9]; exact hP, hD⟩, hS.F ht9⟩) hS.2.2 dL_isMisplaced_23
    · have c_7 := bi_n0.mp c_7
      refine lv_lconst (v := 1) hx hb dL_isMisplaced_10 rfl ?_
      refine lv_goto (tgt := 15) hx hb dL_isMisplaced_11 (by decide) ?_
      have hS := nA_S (A := A) hS
      refine va_last hx hb hK hP hD hS 10 2 rfl rfl (i := 0) (x := 1) in_01 dL_isMisplaced_15 (fun H locs hP hD hS => ?_)
      have hP : va_P D vwCl (wXo q F (nI n) R qo (vp_updL o (0 : Int32).toNatClampNeg 1) cI cZ cL) H := hP
      have hD : va_D A (wXo q F (nI n) R qo (vp_updL o (0 : Int32).toNatClampNeg 1) cI cZ cL) := hD
      refine lv_goto (tgt := 22) hx hb dL_isMisplaced_16 (by decide) ?_
      refine lv_iconst (v := 0) hx hb dL_isMisplaced_22 (by decide) ?_
      refine W.widen (k := 1) (n := 6) (Nat.le_of_ble_eq_true rfl) (Nat.le_of_ble_eq_true rfl) ?_
      exact W.iret hx hb hr (fun t ht9 hW => ⟨⟨_, (vp_updL o (0 : Int32).toNatClampNeg 1), rfl, (by show 0 = th1 n v ∧ (th1 n v = 0 → (vp_updL o (0 : Int32).toNatClampNeg 1) 0 = l01 (sMis F (gi v) (F 7 (gi v)))); exact ⟨hth.symm, fun _ => (by first | rfl | (simp [l01, vp_updL, c_7]; done))⟩), by rw [ht9]; exact hP, hD⟩, hS.F ht9⟩) hS.2.2 dL_isMisplaced_23
set_option maxHeartbeats 4000000 in
set_option maxRecDepth 100000 in
theorem c_L_inBreachWith (l : Launch) (hfl : l.stackTraces = false) (D : va_G) (q : Nat → Nat) (F : Nat → Nat → Int32) (n : Nat) (R : Nat → Int32) (qo : Nat) (o : Nat → Int64) (cI cZ cL : ClassId) (sz : Nat) (v : Int32) (hw : WF F n) : Met l yL_inBreachWith wsL_inBreachWith ({ frames := 8, cells := 1, slots := 6, locals := 155 }) (va_Pc [.ref (q 9), .int v, .ref qo] (lS D (wXo q F (nI n) R qo o cI cZ cL) (tIZL cI cZ cL) sz)) (va_Qi (fun (r : Int32) (u : Nat → Int64) => r = th1 n v ∧ (th1 n v = 0 → u 0 = (nI (sAt F n (gi v) (F 7 (gi v)))).toInt64)) (wB D (va_A (wXo q F (nI n) R qo o cI cZ cL) sz) (fun (u : Nat → Int64) => wXo q F (nI n) R qo u cI cZ cL)) (va_A (wXo q F (nI n) R qo o cI cZ cL) sz)) 1 6 (va_A (wXo q F (nI n) R qo o cI cZ cL) sz) := by
  refine l_of (hh := [(0, 9, 12, 35)]) (own := RL) (cc := cL_inBreachWith) (maxL := 4) (ret := (some .int)) (by decide) rfl rfl (Nat.le_of_ble_eq_true rfl) ?_
  intro p9 e9 s m9 a9 below meth c9 ls A hx hb hr hml hlocks hown hts htab ht hn hP hK hD hA hl
  have hS : va_S nA s.heap s.heap [] := va_S.rf
  have hl : lv_has ls 4 [(0, .ref (q 9)), (1, .int v), (2, .ref qo)] := hl
  refine lv_aload_n hx hb dL_inBreachWith_0 rfl (lv_at hl 2 rfl) ?_
  refine lv_iconst (v := 0) hx hb dL_inBreachWith_1 (by decide) ?_
  refine lv_aload_n hx hb dL_inBreachWith_2 rfl (lv_at hl 0 rfl) ?_
  refine lv_iload_n hx hb dL_inBreachWith_3 rfl (lv_at hl 1 rfl) ?_
  refine tx_Vi (As := [.int v]) (rest := [.int 0, .ref qo]) ⟨hx, hb, hml, hown, hts⟩ (c_X0_inBreachWith l hfl D q F n R cI cZ v hw) (cwV 1 hts gL_inBreachWith_X0_inBreachWith rfl rfl rfl (by decide +kernel) ⟨Nat.le_of_ble_eq_true rfl, Nat.le_of_ble_eq_true rfl⟩) ht (hK.sub [0, 1] rfl) hP (hP.sub [0, 1, 2, 3, 4, 5, 6, 7, 8, 9] rfl) (va_recv hK hP (ci := 0) (q0 := 0) rfl rfl) hS rfl hl.1 rfl (Nat.le_of_ble_eq_true rfl) dL_inBreachWith_4 ⟨Nat.le_of_ble_eq_true rfl, Nat.le_of_ble_eq_true rfl⟩ (fun E ce q9 H locs hE hP hS hce hcv hcl => ?_) (fun r9 H locs h9 hP hS => ?_)
  · obtain ⟨rfl, hth⟩ := hE
    refine vx_catch (name := "java/lang/IndexOutOfBoundsException") hown [] ⟨0, 9, 12, 35⟩ [] htab (fun z hz => by cases hz) (by decide) (by decide) (hts (.classLink RL 35 "java/lang/IndexOutOfBoundsException") (by decide +kernel)) (bW_use ht.1 _ bw_io) hce hcv hcl ?_
    refine lv_astore_n (lv' := [(3, .ref q9), (0, .ref (q 9)), (1, .int v), (2, .ref qo)]) hx hb dL_inBreachWith_12 rfl hl (by decide) rfl (fun ls hl => ?_)
    refine lv_iconst (v := 1) hx hb dL_inBreachWith_13 (by decide) ?_
    have hS := nA_S (A := A) hS
    refine W.widen (k := 1) (n := 6) (Nat.le_of_ble_eq_true rfl) (Nat.le_of_ble_eq_true rfl) ?_
    exact W.iret hx hb hr (fun t ht9 hW => ⟨⟨_, o, rfl, (by show 1 = th1 n v ∧ (th1 n v = 0 → o 0 = (nI (sAt F n (gi v) (F 7 (gi v)))).toInt64); exact ⟨hth.symm, fun h9 => absurd (hth.symm.trans h9) (by decide)⟩), by rw [ht9]; exact hP, hD⟩, hS.F ht9⟩) hS.2.2 dL_inBreachWith_14
  · obtain ⟨rfl, hth⟩ := h9
    refine lv_i2l hx hb dL_inBreachWith_7 rfl ?_
    have hS := nA_S (A := A) hS
    refine va_last hx hb hK hP hD hS 10 2 rfl rfl (i := 0) (x := (nI (sAt F n (gi v) (F 7 (gi v)))).toInt64) in_01 dL_inBreachWith_8 (fun H locs hP hD hS => ?_)
    have hP : va_P D vwCl (wXo q F (nI n) R qo (vp_updL o (0 : Int32).toNatClampNeg ((nI (sAt F n (gi v) (F 7 (gi v)))).toInt64)) cI cZ cL) H := hP
    have hD : va_D A (wXo q F (nI n) R qo (vp_updL o (0 : Int32).toNatClampNeg ((nI (sAt F n (gi v) (F 7 (gi v)))).toInt64)) cI cZ cL) := hD
    refine lv_goto (tgt := 15) hx hb dL_inBreachWith_9 (by decide) ?_
    refine lv_iconst (v := 0) hx hb dL_inBreachWith_15 (by decide) ?_
    refine W.widen (k := 1) (n := 6) (Nat.le_of_ble_eq_true rfl) (Nat.le_of_ble_eq_true rfl) ?_
    exact W.iret hx hb hr (fun t ht9 hW => ⟨⟨_, (vp_updL o (0 : Int32).toNatClampNeg ((nI (sAt F n (gi v) (F 7 (gi v)))).toInt64)), rfl, (by show 0 = th1 n v ∧ (th1 n v = 0 → (vp_updL o (0 : Int32).toNatClampNeg ((nI (sAt F n (gi v) (F 7 (gi v)))).toInt64)) 0 = (nI (sAt F n (gi v) (F 7 (gi v)))).toInt64); exact ⟨hth.symm, fun _ => (by first | rfl | (simp [l01, vp_updL]; done))⟩), by rw [ht9]; exact hP, hD⟩, hS.F ht9⟩) hS.2.2 dL_inBreachWith_16
set_option maxHeartbeats 4000000 in
set_option maxRecDepth 100000 in
theorem c_L_canPut (l : Launch) (hfl : l.stackTraces = false) (D : va_G) (q : Nat → Nat) (F : Nat → Nat → Int32) (n : Nat) (R : Nat → Int32) (qo : Nat) (o : Nat → Int64) (cI cZ cL : ClassId) (sz : Nat) (v : Int32) (x1 : Int32) (hw : WF F n) : Met l yL_canPut wsL_canPut ({ frames := 9, cells := 2, slots := 12, locals := 178 }) (va_Pc [.ref (q 9), .int v, .int x1, .ref qo] (lS D (wXo q F (nI n) R qo o cI cZ cL) (tIZL cI cZ cL) sz)) (va_Qi (fun (r : Int32) (u : Nat → Int64) => r = thCP n v x1 ∧ (thCP n v x1 = 0 → u 0 = l01 (sClean F n (gi v) x1))) (wB D (va_A (wXo q F (nI n) R qo o cI cZ cL) sz) (fun (u : Nat → Int64) => wXo q F (nI n) R qo u cI cZ cL)) (va_A (wXo q F (nI n) R qo o cI cZ cL) sz)) 2 12 (va_A (wXo q F (nI n) R qo o cI cZ cL) sz) := by
  refine l_of (hh := [(0, 17, 20, 35), (0, 17, 24, 13)]) (own := RL) (cc := cL_canPut) (maxL := 5) (ret := (some .int)) (by decide) rfl rfl (Nat.le_of_ble_eq_true rfl) ?_
  intro p9 e9 s m9 a9 below meth c9 ls A hx hb hr hml hlocks hown hts htab ht hn hP hK hD hA hl
  have hS : va_S nA s.heap s.heap [] := va_S.rf
  have hl : lv_has ls 5 [(0, .ref (q 9)), (1, .int v), (2, .int x1), (3, .ref qo)] := hl
  refine lv_aload_n hx hb dL_canPut_0 rfl (lv_at hl 3 rfl) ?_
  refine lv_iconst (v := 0) hx hb dL_canPut_1 (by decide) ?_
  refine lv_aload_n hx hb dL_canPut_2 rfl (lv_at hl 0 rfl) ?_
  refine lv_iload_n hx hb dL_canPut_3 rfl (lv_at hl 1 rfl) ?_
  refine lv_iload_n hx hb dL_canPut_4 rfl (lv_at hl 2 rfl) ?_
  refine tx_Vi (As := [.int v, .int x1]) (rest := [.int 0, .ref qo]) ⟨hx, hb, hml, hown, hts⟩ (c_X0_canPut l hfl D q F n R cI cZ v x1 hw) (cwV 2 hts gL_canPut_X0_canPut rfl rfl rfl (by decide +kernel) ⟨Nat.le_of_ble_eq_true rfl, Nat.le_of_ble_eq_true rfl⟩) ht (hK.sub [0, 1] rfl) hP (hP.sub [0, 1, 2, 3, 4, 5, 6, 7, 8, 9] rfl) (va_recv hK hP (ci := 0) (q0 := 0) rfl rfl) hS rfl hl.1 rfl (Nat.le_of_ble_eq_true rfl) dL_canPut_5 ⟨Nat.le_of_ble_eq_true rfl, Nat.le_of_ble_eq_true rfl⟩ (fun E ce q9 H locs hE hP hS hce hcv hcl => ?_) (fun r9 H locs h9 hP hS => ?_)
  · rcases hE with ⟨rfl, hth⟩ | ⟨rfl, hth⟩
    · skip
      refine vx_catch (name := "java/lang/IndexOutOfBoundsException") hown [] ⟨0, 17, 20, 35⟩ [⟨0, 17, 24, 13⟩] htab (fun z hz => by cases hz) (by decide) (by decide) (hts (.classLink RL 35 "java/lang/IndexOutOfBoundsException") (by decide +kernel)) (bW_use ht.1 _ bw_io) hce hcv hcl ?_
      refine lv_astore (lv' := [(4, .ref q9), (0, .ref (q 9)), (1, .int v), (2, .int x1), (3, .ref qo)]) hx hb dL_canPut_20 hl (by decide) rfl (fun ls hl => ?_)
      refine lv_iconst (v := 1) hx hb dL_canPut_22 (by decide) ?_
      have hS := nA_S (A := A) hS
      refine W.widen (k := 2) (n := 12) (Nat.le_of_ble_eq_true rfl) (Nat.le_of_ble_eq_true rfl) ?_
      exact W.iret hx hb hr (fun t ht9 hW => ⟨⟨_, o, rfl, (by show 1 = thCP n v x1 ∧ (thCP n v x1 = 0 → o 0 = l01 (sClean F n (gi v) x1)); exact ⟨hth.symm, fun h9 => absurd (hth.symm.trans h9) (by decide)⟩), by rw [ht9]; exact hP, hD⟩, hS.F ht9⟩) hS.2.2 dL_canPut_23
    · skip
      refine vx_catch (name := "java/lang/IllegalArgumentException") hown [⟨0, 17, 20, 35⟩] ⟨0, 17, 24, 13⟩ [] htab (fun z hz => by rw [List.mem_singleton.mp hz]; exact Or.inr ⟨by decide, "java/lang/IndexOutOfBoundsException", hts (.classLink RL 35 "java/lang/IndexOutOfBoundsException") (by decide +kernel), hn.2⟩) (by decide) (by decide) (hts (.classLink RL 13 "java/lang/IllegalArgumentException") (by decide +kernel)) (bW_use ht.1 _ bw_ia) hce hcv hcl ?_
      refine lv_astore (lv' := [(4, .ref q9), (0, .ref (q 9)), (1, .int v), (2, .int x1), (3, .ref qo)]) hx hb dL_canPut_24 hl (by decide) rfl (fun ls hl => ?_)
      refine lv_iconst (v := 2) hx hb dL_canPut_26 (by decide) ?_
      have hS := nA_S (A := A) hS
      refine W.widen (k := 2) (n := 12) (Nat.le_of_ble_eq_true rfl) (Nat.le_of_ble_eq_true rfl) ?_
      exact W.iret hx hb hr (fun t ht9 hW => ⟨⟨_, o, rfl, (by show 2 = thCP n v x1 ∧ (thCP n v x1 = 0 → o 0 = l01 (sClean F n (gi v) x1)); exact ⟨hth.symm, fun h9 => absurd (hth.symm.trans h9) (by decide)⟩), by rw [ht9]; exact hP, hD⟩, hS.F ht9⟩) hS.2.2 dL_canPut_27
  · obtain ⟨rfl, hth⟩ := h9
    refine lv_if_eq (x := (bi (sClean F n (gi v) x1))) (tgt := 15) hx hb dL_canPut_8 (by decide) (fun c_8 => ?_) (fun c_8 => ?_)
    · have c_8 := bi_e0.mp c_8
      refine lv_lconst (v := 0) hx hb dL_canPut_15 rfl ?_
      have hS := nA_S (A := A) hS
      refine va_last hx hb hK hP hD hS 10 2 rfl rfl (i := 0) (x := 0) in_01 dL_canPut_16 (fun H locs hP hD hS => ?_)
      have hP : va_P D vwCl (wXo q F (nI n) R qo (vp_updL o (0 : Int32).toNatClampNeg 0) cI cZ cL) H := hP
      have hD : va_D A (wXo q F (nI n) R qo (vp_updL o (0 : Int32).toNatClampNeg 0) cI cZ cL) := hD
      refine lv_goto (tgt := 28) hx hb dL_canPut_17 (by decide) ?_
      refine lv_iconst (v := 0) hx hb dL_canPut_28 (by decide) ?_
      refine W.widen (k := 2) (n := 12) (Nat.le_of_ble_eq_true rfl) (Nat.le_of_ble_eq_true rfl) ?_
      exact W.iret hx hb hr (fun t ht9 hW => ⟨⟨_, (vp_updL o (0 : Int32).toNatClampNeg 0), rfl, (by show 0 = thCP n v x1 ∧ (thCP n v x1 = 0 → (vp_updL o (0 : Int32).toNatClampNeg 0) 0 = l01 (sClean F n (gi v) x1)); exact ⟨hth.symm, fun _ => (by first | rfl | (simp [l01, vp_updL, c_8]; done))⟩), by rw [ht9]; exact hP, hD⟩, hS.F ht9⟩) hS.2.2 dL_canPut_29
    · have c_8 := bi_n0.mp c_8
      refine lv_lconst (v := 1) hx hb dL_canPut_11 rfl ?_
      refine lv_goto (tgt := 16) hx hb dL_canPut_12 (by decide) ?_
      have hS := nA_S (A := A) hS
      refine va_last hx hb hK hP hD hS 10 2 rfl rfl (i := 0) (x := 1) in_01 dL_canPut_16 (fun H locs hP hD hS => ?_)
      have hP : va_P D vwCl (wXo q F (nI n) R qo (vp_updL o (0 : Int32).toNatClampNeg 1) cI cZ cL) H := hP
      have hD : va_D A (wXo q F (nI n) R qo (vp_updL o (0 : Int32).toNatClampNeg 1) cI cZ cL) := hD
      refine lv_goto (tgt := 28) hx hb dL_canPut_17 (by decide) ?_
      refine lv_iconst (v := 0) hx hb dL_canPut_28 (by decide) ?_
      refine W.widen (k := 2) (n := 12) (Nat.le_of_ble_eq_true rfl) (Nat.le_of_ble_eq_true rfl) ?_
      exact W.iret hx hb hr (fun t ht9 hW => ⟨⟨_, (vp_updL o (0 : Int32).toNatClampNeg 1), rfl, (by show 0 = thCP n v x1 ∧ (thCP n v x1 = 0 → (vp_updL o (0 : Int32).toNatClampNeg 1) 0 = l01 (sClean F n (gi v) x1)); exact ⟨hth.symm, fun _ => (by first | rfl | (simp [l01, vp_updL, c_8]; done))⟩), by rw [ht9]; exact hP, hD⟩, hS.F ht9⟩) hS.2.2 dL_canPut_29
set_option maxHeartbeats 4000000 in
set_option maxRecDepth 100000 in
theorem c_L_placeFor (l : Launch) (hfl : l.stackTraces = false) (D : va_G) (q : Nat → Nat) (F : Nat → Nat → Int32) (n : Nat) (R : Nat → Int32) (qo : Nat) (o : Nat → Int64) (cI cZ cL : ClassId) (sz : Nat) (v : Int32) (hw : WF F n) : Met l yL_placeFor wsL_placeFor ({ frames := 8, cells := 1, slots := 6, locals := 178 }) (va_Pc [.ref (q 9), .int v, .ref qo] (lS D (wXo q F (nI n) R qo o cI cZ cL) (tIZL cI cZ cL) sz)) (va_Qi (fun (r : Int32) (u : Nat → Int64) => r = th1 n v ∧ (th1 n v = 0 → ∃ z : Int32, isLow (fun k => sClean F n (gi v) (nI k)) z ∧ u 0 = z.toInt64)) (wB D (va_A (wXo q F (nI n) R qo o cI cZ cL) sz) (fun (u : Nat → Int64) => wXo q F (nI n) R qo u cI cZ cL)) (va_A (wXo q F (nI n) R qo o cI cZ cL) sz)) 1 6 (va_A (wXo q F (nI n) R qo o cI cZ cL) sz) := by
  refine l_of (hh := [(0, 9, 12, 35)]) (own := RL) (cc := cL_placeFor) (maxL := 4) (ret := (some .int)) (by decide) rfl rfl (Nat.le_of_ble_eq_true rfl) ?_
  intro p9 e9 s m9 a9 below meth c9 ls A hx hb hr hml hlocks hown hts htab ht hn hP hK hD hA hl
  have hS : va_S nA s.heap s.heap [] := va_S.rf
  have hl : lv_has ls 4 [(0, .ref (q 9)), (1, .int v), (2, .ref qo)] := hl
  refine lv_aload_n hx hb dL_placeFor_0 rfl (lv_at hl 2 rfl) ?_
  refine lv_iconst (v := 0) hx hb dL_placeFor_1 (by decide) ?_
  refine lv_aload_n hx hb dL_placeFor_2 rfl (lv_at hl 0 rfl) ?_
  refine lv_iload_n hx hb dL_placeFor_3 rfl (lv_at hl 1 rfl) ?_
  refine tx_Vi (As := [.int v]) (rest := [.int 0, .ref qo]) ⟨hx, hb, hml, hown, hts⟩ (c_X0_placeFor l hfl D q F n R cI cZ v hw) (cwV 1 hts gL_placeFor_X0_placeFor rfl rfl rfl (by decide +kernel) ⟨Nat.le_of_ble_eq_true rfl, Nat.le_of_ble_eq_true rfl⟩) ht (hK.sub [0, 1] rfl) hP (hP.sub [0, 1, 2, 3, 4, 5, 6, 7, 8, 9] rfl) (va_recv hK hP (ci := 0) (q0 := 0) rfl rfl) hS rfl hl.1 rfl (Nat.le_of_ble_eq_true rfl) dL_placeFor_4 ⟨Nat.le_of_ble_eq_true rfl, Nat.le_of_ble_eq_true rfl⟩ (fun E ce q9 H locs hE hP hS hce hcv hcl => ?_) (fun r9 H locs h9 hP hS => ?_)
  · obtain ⟨rfl, hth⟩ := hE
    refine vx_catch (name := "java/lang/IndexOutOfBoundsException") hown [] ⟨0, 9, 12, 35⟩ [] htab (fun z hz => by cases hz) (by decide) (by decide) (hts (.classLink RL 35 "java/lang/IndexOutOfBoundsException") (by decide +kernel)) (bW_use ht.1 _ bw_io) hce hcv hcl ?_
    refine lv_astore_n (lv' := [(3, .ref q9), (0, .ref (q 9)), (1, .int v), (2, .ref qo)]) hx hb dL_placeFor_12 rfl hl (by decide) rfl (fun ls hl => ?_)
    refine lv_iconst (v := 1) hx hb dL_placeFor_13 (by decide) ?_
    have hS := nA_S (A := A) hS
    refine W.widen (k := 1) (n := 6) (Nat.le_of_ble_eq_true rfl) (Nat.le_of_ble_eq_true rfl) ?_
    exact W.iret hx hb hr (fun t ht9 hW => ⟨⟨_, o, rfl, (by show 1 = th1 n v ∧ (th1 n v = 0 → ∃ z : Int32, isLow (fun k => sClean F n (gi v) (nI k)) z ∧ o 0 = z.toInt64); exact ⟨hth.symm, fun h9 => absurd (hth.symm.trans h9) (by decide)⟩), by rw [ht9]; exact hP, hD⟩, hS.F ht9⟩) hS.2.2 dL_placeFor_14
  · obtain ⟨hlow, hth⟩ := h9
    refine lv_i2l hx hb dL_placeFor_7 rfl ?_
    have hS := nA_S (A := A) hS
    refine va_last hx hb hK hP hD hS 10 2 rfl rfl (i := 0) (x := r9.toInt64) in_01 dL_placeFor_8 (fun H locs hP hD hS => ?_)
    have hP : va_P D vwCl (wXo q F (nI n) R qo (vp_updL o (0 : Int32).toNatClampNeg r9.toInt64) cI cZ cL) H := hP
    have hD : va_D A (wXo q F (nI n) R qo (vp_updL o (0 : Int32).toNatClampNeg r9.toInt64) cI cZ cL) := hD
    refine lv_goto (tgt := 15) hx hb dL_placeFor_9 (by decide) ?_
    refine lv_iconst (v := 0) hx hb dL_placeFor_15 (by decide) ?_
    refine W.widen (k := 1) (n := 6) (Nat.le_of_ble_eq_true rfl) (Nat.le_of_ble_eq_true rfl) ?_
    exact W.iret hx hb hr (fun t ht9 hW => ⟨⟨_, (vp_updL o (0 : Int32).toNatClampNeg r9.toInt64), rfl, (by show 0 = th1 n v ∧ (th1 n v = 0 → ∃ z : Int32, isLow (fun k => sClean F n (gi v) (nI k)) z ∧ (vp_updL o (0 : Int32).toNatClampNeg r9.toInt64) 0 = z.toInt64); exact ⟨hth.symm, fun _ => ⟨r9, hlow, rfl⟩⟩), by rw [ht9]; exact hP, hD⟩, hS.F ht9⟩) hS.2.2 dL_placeFor_16

/-! the law's methods that catch -/
set_option maxHeartbeats 4000000 in
set_option maxRecDepth 100000 in
theorem c_L_setQuantities (l : Launch) (hfl : l.stackTraces = false) (D : va_G) (q : Nat → Nat) (F : Nat → Nat → Int32) (n : Nat) (R : Nat → Int32) (cI cZ : ClassId) (sz : Nat) (c1 : Int32) (l1 : Int32) (x1 : Int32) (hw : WF F n) : Met l yL_setQuantities wsL_setQuantities ({ frames := 9, cells := 3, slots := 18, locals := 155 }) (va_Pc [.ref (q 9), .int c1, .int l1, .int x1] (lA D (wX q F (nI n) R cI cZ) (tIZ cI cZ) sz)) (va_Qi (fun (r : Int32) (u : Nat → Nat → Int32) => (thSQ c1 l1 x1 = 0 → r = 0 ∧ u = fSQ F c1 l1 x1) ∧ (thSQ c1 l1 x1 = 1 → r = -702 ∧ u = F)) (wB D (va_A (wX q F (nI n) R cI cZ) sz) (fun (u : Nat → Nat → Int32) => wX q u (nI n) R cI cZ)) (va_A (wX q F (nI n) R cI cZ) sz)) 3 18 (va_A (wX q F (nI n) R cI cZ) sz) := by
  refine la_of (Qc := fun A => (va_Qi (fun (r : Int32) (u : Nat → Nat → Int32) => (thSQ c1 l1 x1 = 0 → r = 0 ∧ u = fSQ F c1 l1 x1) ∧ (thSQ c1 l1 x1 = 1 → r = -702 ∧ u = F)) (wB D A (fun (u : Nat → Nat → Int32) => wX q u (nI n) R cI cZ)) A)) (hh := [(0, 8, 9, 26)]) (own := RL) (cc := cL_setQuantities) (maxL := 5) (ret := (some .int)) (by decide) rfl rfl (Nat.le_of_ble_eq_true rfl) ?_
  intro p9 e9 s m9 a9 below meth c9 ls A hx hb hr hml hlocks hown hts htab htA hn9 hP hK hD hA hl
  have ht : tB s := htA.tB
  have hS : va_S nA s.heap s.heap [] := va_S.rf
  have hl : lv_has ls 5 [(0, .ref (q 9)), (1, .int c1), (2, .int l1), (3, .int x1)] := hl
  refine lv_aload_n hx hb dL_setQuantities_0 rfl (lv_at hl 0 rfl) ?_
  refine lv_iload_n hx hb dL_setQuantities_1 rfl (lv_at hl 1 rfl) ?_
  refine lv_iload_n hx hb dL_setQuantities_2 rfl (lv_at hl 2 rfl) ?_
  refine lv_iload_n hx hb dL_setQuantities_3 rfl (lv_at hl 3 rfl) ?_
  refine wx_Vv (As := [.int c1, .int l1, .int x1]) (rest := []) (wr := []) ⟨hx, hb, hml, hown, hts⟩ (c_X0_setQuantities l hfl D q F n R cI cZ _ c1 l1 x1 hw) (cwV 3 hts gL_setQuantities_X0_setQuantities rfl rfl rfl (by decide +kernel) ⟨Nat.le_of_ble_eq_true rfl, Nat.le_of_ble_eq_true rfl⟩) ht hK hP hD hA [0, 1, 2, 3, 4, 5, 6, 7, 8, 9] [] rfl rfl (by decide) rfl (by decide) (by decide) (va_recv hK hP (ci := 0) (q0 := 0) rfl rfl) hS rfl hl.1 rfl (Nat.le_of_ble_eq_true rfl) dL_setQuantities_4 ⟨Nat.le_of_ble_eq_true rfl, Nat.le_of_ble_eq_true rfl⟩ (fun E ce q9 H locs hE hP hS hce hcv hcl => ?_) (fun u9 H locs h9 hP hD hS => ?_)
  · obtain ⟨rfl, hth⟩ := hE
    refine vx_catch (name := "java/lang/IllegalArgumentException") hown [] ⟨0, 8, 9, 26⟩ [] htab (fun z hz => by cases hz) (by decide) (by decide) (hts (.classLink RL 26 "java/lang/IllegalArgumentException") (by decide +kernel)) (bW_use ht.1 _ bw_ia) hce hcv hcl ?_
    refine lv_astore (lv' := [(4, .ref q9), (0, .ref (q 9)), (1, .int c1), (2, .int l1), (3, .int x1)]) hx hb dL_setQuantities_9 hl (by decide) rfl (fun ls hl => ?_)
    refine lv_sipush (v := (-702)) hx hb dL_setQuantities_11 (by decide) ?_
    refine W.widen (k := 3) (n := 18) (Nat.le_of_ble_eq_true rfl) (Nat.le_of_ble_eq_true rfl) ?_
    exact W.iret hx hb hr (fun t ht9 hW => ⟨⟨_, F, rfl, (by show (thSQ c1 l1 x1 = 0 → (-702) = 0 ∧ F = fSQ F c1 l1 x1) ∧ (thSQ c1 l1 x1 = 1 → (-702) = -702 ∧ F = F); exact ⟨fun h9 => absurd (hth.symm.trans h9) (by decide), fun _ => ⟨rfl, rfl⟩⟩), by rw [ht9]; exact hP, hD⟩, hS.F ht9⟩) hS.2.2 dL_setQuantities_14
  · obtain ⟨rfl, hth⟩ := h9
    have hP : va_P D vwCl (wX q (fSQ F c1 l1 x1) (nI n) R cI cZ) H := hP
    have hD : va_D A (wX q (fSQ F c1 l1 x1) (nI n) R cI cZ) := hD
    refine lv_iconst (v := 0) hx hb dL_setQuantities_7 (by decide) ?_
    refine W.widen (k := 3) (n := 18) (Nat.le_of_ble_eq_true rfl) (Nat.le_of_ble_eq_true rfl) ?_
    exact W.iret hx hb hr (fun t ht9 hW => ⟨⟨_, (fSQ F c1 l1 x1), rfl, (by show (thSQ c1 l1 x1 = 0 → 0 = 0 ∧ (fSQ F c1 l1 x1) = fSQ F c1 l1 x1) ∧ (thSQ c1 l1 x1 = 1 → 0 = -702 ∧ (fSQ F c1 l1 x1) = F); exact ⟨fun _ => ⟨(by first | rfl | (simp [bi]; done)), rfl⟩, fun h9 => absurd (hth.symm.trans h9) (by decide)⟩), by rw [ht9]; exact hP, hD⟩, hS.F ht9⟩) hS.2.2 dL_setQuantities_8
set_option maxHeartbeats 4000000 in
set_option maxRecDepth 100000 in
theorem c_L_rule_sd (l : Launch) (hfl : l.stackTraces = false) (D : va_G) (q : Nat → Nat) (F : Nat → Nat → Int32) (n : Nat) (R : Nat → Int32) (cI cZ : ClassId) (sz : Nat) (c1 : Int32) (c2 : Int32) (d1 : Int32) (hw : WF F n) : Met l yL_rule wsL_rule ({ frames := 9, cells := 3, slots := 18, locals := 156 }) (va_Pc [.ref (q 9), .int 0, .int c1, .int c2, .int d1] (lA D (wX q F (nI n) R cI cZ) (tIZ cI cZ) sz)) (va_Qi (fun (r : Int32) (u : Nat → Nat → Int32) => (thSD c1 c2 d1 = 0 → r = F 0 (c1 * 10 + c2).toNatClampNeg ∧ u = fSD F c1 c2 d1) ∧ (thSD c1 c2 d1 = 1 → r = -702 ∧ u = F)) (wB D (va_A (wX q F (nI n) R cI cZ) sz) (fun (u : Nat → Nat → Int32) => wX q u (nI n) R cI cZ)) (va_A (wX q F (nI n) R cI cZ) sz)) 3 18 (va_A (wX q F (nI n) R cI cZ) sz) := by
  refine la_of (Qc := fun A => (va_Qi (fun (r : Int32) (u : Nat → Nat → Int32) => (thSD c1 c2 d1 = 0 → r = F 0 (c1 * 10 + c2).toNatClampNeg ∧ u = fSD F c1 c2 d1) ∧ (thSD c1 c2 d1 = 1 → r = -702 ∧ u = F)) (wB D A (fun (u : Nat → Nat → Int32) => wX q u (nI n) R cI cZ)) A)) (hh := [(0, 70, 71, 26), (0, 70, 77, 28)]) (own := RL) (cc := cL_rule) (maxL := 6) (ret := (some .int)) (by decide) rfl rfl (Nat.le_of_ble_eq_true rfl) ?_
  intro p9 e9 s m9 a9 below meth c9 ls A hx hb hr hml hlocks hown hts htab htA hn9 hP hK hD hA hl
  have ht : tB s := htA.tB
  have hS : va_S nA s.heap s.heap [] := va_S.rf
  have hl : lv_has ls 6 [(0, .ref (q 9)), (1, .int 0), (2, .int c1), (3, .int c2), (4, .int d1)] := hl
  refine lv_iload_n hx hb dL_rule_0 rfl (lv_at hl 1 rfl) ?_
  refine lv_if_ne (x := 0) (tgt := 15) hx hb dL_rule_1 (by decide) (fun k => absurd (by decide) k) (fun _ => ?_)
  refine lv_aload_n hx hb dL_rule_4 rfl (lv_at hl 0 rfl) ?_
  refine lv_iload_n hx hb dL_rule_5 rfl (lv_at hl 2 rfl) ?_
  refine lv_iload_n hx hb dL_rule_6 rfl (lv_at hl 3 rfl) ?_
  refine lv_iload hx hb dL_rule_7 (lv_at hl 4 rfl) ?_
  refine wx_V (As := [.int c1, .int c2, .int d1]) (rest := []) (wr := []) ⟨hx, hb, hml, hown, hts⟩ (c_X0_setDistance l hfl D q F n R cI cZ _ c1 c2 d1 hw) (cwV 3 hts gL_rule_X0_setDistance rfl rfl rfl (by decide +kernel) ⟨Nat.le_of_ble_eq_true rfl, Nat.le_of_ble_eq_true rfl⟩) ht hK hP hD hA [0, 1, 2, 3, 4, 5, 6, 7, 8, 9] [] rfl rfl (by decide) rfl (by decide) (by decide) (va_recv hK hP (ci := 0) (q0 := 0) rfl rfl) hS rfl hl.1 rfl (Nat.le_of_ble_eq_true rfl) dL_rule_9 ⟨Nat.le_of_ble_eq_true rfl, Nat.le_of_ble_eq_true rfl⟩ (fun E ce q9 H locs hE hP hS hce hcv hcl => ?_) (fun r9 u9 H locs h9 hP hD hS => ?_)
  · obtain ⟨rfl, hth⟩ := hE
    refine vx_catch (name := "java/lang/IllegalArgumentException") hown [] ⟨0, 70, 71, 26⟩ [⟨0, 70, 77, 28⟩] htab (fun z hz => by cases hz) (by decide) (by decide) (hts (.classLink RL 26 "java/lang/IllegalArgumentException") (by decide +kernel)) (bW_use ht.1 _ bw_ia) hce hcv hcl ?_
    refine lv_astore (lv' := [(5, .ref q9), (0, .ref (q 9)), (1, .int 0), (2, .int c1), (3, .int c2), (4, .int d1)]) hx hb dL_rule_71 hl (by decide) rfl (fun ls hl => ?_)
    refine lv_sipush (v := (-702)) hx hb dL_rule_73 (by decide) ?_
    refine W.widen (k := 3) (n := 18) (Nat.le_of_ble_eq_true rfl) (Nat.le_of_ble_eq_true rfl) ?_
    exact W.iret hx hb hr (fun t ht9 hW => ⟨⟨_, F, rfl, (by show (thSD c1 c2 d1 = 0 → (-702) = F 0 (c1 * 10 + c2).toNatClampNeg ∧ F = fSD F c1 c2 d1) ∧ (thSD c1 c2 d1 = 1 → (-702) = -702 ∧ F = F); exact ⟨fun h9 => absurd (hth.symm.trans h9) (by decide), fun _ => ⟨rfl, rfl⟩⟩), by rw [ht9]; exact hP, hD⟩, hS.F ht9⟩) hS.2.2 dL_rule_76
  · obtain ⟨rfl, rfl, hth⟩ := h9
    have hP : va_P D vwCl (wX q (fSD F c1 c2 d1) (nI n) R cI cZ) H := hP
    have hD : va_D A (wX q (fSD F c1 c2 d1) (nI n) R cI cZ) := hD
    refine lv_goto (tgt := 70) hx hb dL_rule_12 (by decide) ?_
    refine W.widen (k := 3) (n := 18) (Nat.le_of_ble_eq_true rfl) (Nat.le_of_ble_eq_true rfl) ?_
    exact W.iret hx hb hr (fun t ht9 hW => ⟨⟨_, (fSD F c1 c2 d1), rfl, (by show (thSD c1 c2 d1 = 0 → (F 0 ((c1 * 10) + c2).toNatClampNeg) = F 0 (c1 * 10 + c2).toNatClampNeg ∧ (fSD F c1 c2 d1) = fSD F c1 c2 d1) ∧ (thSD c1 c2 d1 = 1 → (F 0 ((c1 * 10) + c2).toNatClampNeg) = -702 ∧ (fSD F c1 c2 d1) = F); exact ⟨fun _ => ⟨(by first | rfl | (simp [bi]; done)), rfl⟩, fun h9 => absurd (hth.symm.trans h9) (by decide)⟩), by rw [ht9]; exact hP, hD⟩, hS.F ht9⟩) hS.2.2 dL_rule_70
set_option maxHeartbeats 4000000 in
set_option maxRecDepth 100000 in
theorem c_L_rule_bar1 (l : Launch) (hfl : l.stackTraces = false) (D : va_G) (q : Nat → Nat) (F : Nat → Nat → Int32) (n : Nat) (R : Nat → Int32) (cI cZ : ClassId) (sz : Nat) (c1 : Int32) (c2 : Int32) (hw : WF F n) : Met l yL_rule wsL_rule ({ frames := 9, cells := 2, slots := 12, locals := 157 }) (va_Pc [.ref (q 9), .int 1, .int c1, .int c2, .int 1] (lA D (wX q F (nI n) R cI cZ) (tIZ cI cZ) sz)) (va_Qi (fun (r : Int32) (u : Nat → Nat → Int32) => (thBar c1 c2 = 0 → r = (if F 3 (c1 * 2 + c2).toNatClampNeg = 0 then 0 else 1) ∧ u = fBar F c1 c2 true) ∧ (thBar c1 c2 = 1 → r = -702 ∧ u = F)) (wB D (va_A (wX q F (nI n) R cI cZ) sz) (fun (u : Nat → Nat → Int32) => wX q u (nI n) R cI cZ)) (va_A (wX q F (nI n) R cI cZ) sz)) 2 12 (va_A (wX q F (nI n) R cI cZ) sz) := by
  refine la_of (Qc := fun A => (va_Qi (fun (r : Int32) (u : Nat → Nat → Int32) => (thBar c1 c2 = 0 → r = (if F 3 (c1 * 2 + c2).toNatClampNeg = 0 then 0 else 1) ∧ u = fBar F c1 c2 true) ∧ (thBar c1 c2 = 1 → r = -702 ∧ u = F)) (wB D A (fun (u : Nat → Nat → Int32) => wX q u (nI n) R cI cZ)) A)) (hh := [(0, 70, 71, 26), (0, 70, 77, 28)]) (own := RL) (cc := cL_rule) (maxL := 6) (ret := (some .int)) (by decide) rfl rfl (Nat.le_of_ble_eq_true rfl) ?_
  intro p9 e9 s m9 a9 below meth c9 ls A hx hb hr hml hlocks hown hts htab htA hn9 hP hK hD hA hl
  have ht : tB s := htA.tB
  have hS : va_S nA s.heap s.heap [] := va_S.rf
  have hl : lv_has ls 6 [(0, .ref (q 9)), (1, .int 1), (2, .int c1), (3, .int c2), (4, .int 1)] := hl
  refine lv_iload_n hx hb dL_rule_0 rfl (lv_at hl 1 rfl) ?_
  refine lv_if_ne (x := 1) (tgt := 15) hx hb dL_rule_1 (by decide) (fun _ => ?_) (fun k => absurd k (by decide))
  refine lv_iload_n hx hb dL_rule_15 rfl (lv_at hl 1 rfl) ?_
  refine lv_iconst (v := 1) hx hb dL_rule_16 (by decide) ?_
  refine lv_icmp_ne (x := 1) (y := 1) (tgt := 48) hx hb dL_rule_17 (by decide) (fun k => absurd (by decide) k) (fun _ => ?_)
  refine lv_aload_n hx hb dL_rule_20 rfl (lv_at hl 0 rfl) ?_
  refine lv_iload_n hx hb dL_rule_21 rfl (lv_at hl 2 rfl) ?_
  refine lv_iload_n hx hb dL_rule_22 rfl (lv_at hl 3 rfl) ?_
  refine lv_iload hx hb dL_rule_23 (lv_at hl 4 rfl) ?_
  refine lv_iconst (v := 1) hx hb dL_rule_25 (by decide) ?_
  refine lv_icmp_ne (x := 1) (y := 1) (tgt := 33) hx hb dL_rule_26 (by decide) (fun k => absurd (by decide) k) (fun _ => ?_)
  refine lv_iconst (v := 1) hx hb dL_rule_29 (by decide) ?_
  refine lv_goto (tgt := 34) hx hb dL_rule_30 (by decide) ?_
  refine wx_V (As := [.int c1, .int c2, .int (bi true)]) (rest := []) (wr := []) ⟨hx, hb, hml, hown, hts⟩ (c_X0_bar l hfl D q F n R cI cZ _ c1 c2 true hw) (cwV 3 hts gL_rule_X0_bar rfl rfl rfl (by decide +kernel) ⟨Nat.le_of_ble_eq_true rfl, Nat.le_of_ble_eq_true rfl⟩) ht hK hP hD hA [0, 1, 2, 3, 4, 5, 6, 7, 8, 9] [] rfl rfl (by decide) rfl (by decide) (by decide) (va_recv hK hP (ci := 0) (q0 := 0) rfl rfl) hS rfl hl.1 rfl (Nat.le_of_ble_eq_true rfl) dL_rule_34 ⟨Nat.le_of_ble_eq_true rfl, Nat.le_of_ble_eq_true rfl⟩ (fun E ce q9 H locs hE hP hS hce hcv hcl => ?_) (fun r9 u9 H locs h9 hP hD hS => ?_)
  · obtain ⟨rfl, hth⟩ := hE
    refine vx_catch (name := "java/lang/IllegalArgumentException") hown [] ⟨0, 70, 71, 26⟩ [⟨0, 70, 77, 28⟩] htab (fun z hz => by cases hz) (by decide) (by decide) (hts (.classLink RL 26 "java/lang/IllegalArgumentException") (by decide +kernel)) (bW_use ht.1 _ bw_ia) hce hcv hcl ?_
    refine lv_astore (lv' := [(5, .ref q9), (0, .ref (q 9)), (1, .int 1), (2, .int c1), (3, .int c2), (4, .int 1)]) hx hb dL_rule_71 hl (by decide) rfl (fun ls hl => ?_)
    refine lv_sipush (v := (-702)) hx hb dL_rule_73 (by decide) ?_
    refine W.widen (k := 2) (n := 12) (Nat.le_of_ble_eq_true rfl) (Nat.le_of_ble_eq_true rfl) ?_
    exact W.iret hx hb hr (fun t ht9 hW => ⟨⟨_, F, rfl, (by show (thBar c1 c2 = 0 → (-702) = (if F 3 (c1 * 2 + c2).toNatClampNeg = 0 then 0 else 1) ∧ F = fBar F c1 c2 true) ∧ (thBar c1 c2 = 1 → (-702) = -702 ∧ F = F); exact ⟨fun h9 => absurd (hth.symm.trans h9) (by decide), fun _ => ⟨rfl, rfl⟩⟩), by rw [ht9]; exact hP, hD⟩, hS.F ht9⟩) hS.2.2 dL_rule_76
  · obtain ⟨rfl, rfl, hth⟩ := h9
    have hP : va_P D vwCl (wX q (fBar F c1 c2 true) (nI n) R cI cZ) H := hP
    have hD : va_D A (wX q (fBar F c1 c2 true) (nI n) R cI cZ) := hD
    refine lv_if_eq (x := (F 3 ((c1 * 2) + c2).toNatClampNeg)) (tgt := 44) hx hb dL_rule_37 (by decide) (fun c_37 => ?_) (fun c_37 => ?_)
    · skip
      refine lv_iconst (v := 0) hx hb dL_rule_44 (by decide) ?_
      refine lv_goto (tgt := 70) hx hb dL_rule_45 (by decide) ?_
      refine W.widen (k := 2) (n := 12) (Nat.le_of_ble_eq_true rfl) (Nat.le_of_ble_eq_true rfl) ?_
      exact W.iret hx hb hr (fun t ht9 hW => ⟨⟨_, (fBar F c1 c2 true), rfl, (by show (thBar c1 c2 = 0 → 0 = (if F 3 (c1 * 2 + c2).toNatClampNeg = 0 then 0 else 1) ∧ (fBar F c1 c2 true) = fBar F c1 c2 true) ∧ (thBar c1 c2 = 1 → 0 = -702 ∧ (fBar F c1 c2 true) = F); exact ⟨fun _ => ⟨(by first | rfl | (simp [bi, eq_true c_37]; done)), rfl⟩, fun h9 => absurd (hth.symm.trans h9) (by decide)⟩), by rw [ht9]; exact hP, hD⟩, hS.F ht9⟩) hS.2.2 dL_rule_70
    · skip
      refine lv_iconst (v := 1) hx hb dL_rule_40 (by decide) ?_
      refine lv_goto (tgt := 70) hx hb dL_rule_41 (by decide) ?_
      refine W.widen (k := 2) (n := 12) (Nat.le_of_ble_eq_true rfl) (Nat.le_of_ble_eq_true rfl) ?_
      exact W.iret hx hb hr (fun t ht9 hW => ⟨⟨_, (fBar F c1 c2 true), rfl, (by show (thBar c1 c2 = 0 → 1 = (if F 3 (c1 * 2 + c2).toNatClampNeg = 0 then 0 else 1) ∧ (fBar F c1 c2 true) = fBar F c1 c2 true) ∧ (thBar c1 c2 = 1 → 1 = -702 ∧ (fBar F c1 c2 true) = F); exact ⟨fun _ => ⟨(by first | rfl | (simp [bi, eq_false c_37]; done)), rfl⟩, fun h9 => absurd (hth.symm.trans h9) (by decide)⟩), by rw [ht9]; exact hP, hD⟩, hS.F ht9⟩) hS.2.2 dL_rule_70
set_option maxHeartbeats 4000000 in
set_option maxRecDepth 100000 in
theorem c_L_rule_bar0 (l : Launch) (hfl : l.stackTraces = false) (D : va_G) (q : Nat → Nat) (F : Nat → Nat → Int32) (n : Nat) (R : Nat → Int32) (cI cZ : ClassId) (sz : Nat) (c1 : Int32) (c2 : Int32) (hw : WF F n) : Met l yL_rule wsL_rule ({ frames := 9, cells := 2, slots := 12, locals := 157 }) (va_Pc [.ref (q 9), .int 1, .int c1, .int c2, .int 0] (lA D (wX q F (nI n) R cI cZ) (tIZ cI cZ) sz)) (va_Qi (fun (r : Int32) (u : Nat → Nat → Int32) => (thBar c1 c2 = 0 → r = (if F 3 (c1 * 2 + c2).toNatClampNeg = 0 then 0 else 1) ∧ u = fBar F c1 c2 false) ∧ (thBar c1 c2 = 1 → r = -702 ∧ u = F)) (wB D (va_A (wX q F (nI n) R cI cZ) sz) (fun (u : Nat → Nat → Int32) => wX q u (nI n) R cI cZ)) (va_A (wX q F (nI n) R cI cZ) sz)) 2 12 (va_A (wX q F (nI n) R cI cZ) sz) := by
  refine la_of (Qc := fun A => (va_Qi (fun (r : Int32) (u : Nat → Nat → Int32) => (thBar c1 c2 = 0 → r = (if F 3 (c1 * 2 + c2).toNatClampNeg = 0 then 0 else 1) ∧ u = fBar F c1 c2 false) ∧ (thBar c1 c2 = 1 → r = -702 ∧ u = F)) (wB D A (fun (u : Nat → Nat → Int32) => wX q u (nI n) R cI cZ)) A)) (hh := [(0, 70, 71, 26), (0, 70, 77, 28)]) (own := RL) (cc := cL_rule) (maxL := 6) (ret := (some .int)) (by decide) rfl rfl (Nat.le_of_ble_eq_true rfl) ?_
  intro p9 e9 s m9 a9 below meth c9 ls A hx hb hr hml hlocks hown hts htab htA hn9 hP hK hD hA hl
  have ht : tB s := htA.tB
  have hS : va_S nA s.heap s.heap [] := va_S.rf
  have hl : lv_has ls 6 [(0, .ref (q 9)), (1, .int 1), (2, .int c1), (3, .int c2), (4, .int 0)] := hl
  refine lv_iload_n hx hb dL_rule_0 rfl (lv_at hl 1 rfl) ?_
  refine lv_if_ne (x := 1) (tgt := 15) hx hb dL_rule_1 (by decide) (fun _ => ?_) (fun k => absurd k (by decide))
  refine lv_iload_n hx hb dL_rule_15 rfl (lv_at hl 1 rfl) ?_
  refine lv_iconst (v := 1) hx hb dL_rule_16 (by decide) ?_
  refine lv_icmp_ne (x := 1) (y := 1) (tgt := 48) hx hb dL_rule_17 (by decide) (fun k => absurd (by decide) k) (fun _ => ?_)
  refine lv_aload_n hx hb dL_rule_20 rfl (lv_at hl 0 rfl) ?_
  refine lv_iload_n hx hb dL_rule_21 rfl (lv_at hl 2 rfl) ?_
  refine lv_iload_n hx hb dL_rule_22 rfl (lv_at hl 3 rfl) ?_
  refine lv_iload hx hb dL_rule_23 (lv_at hl 4 rfl) ?_
  refine lv_iconst (v := 1) hx hb dL_rule_25 (by decide) ?_
  refine lv_icmp_ne (x := 0) (y := 1) (tgt := 33) hx hb dL_rule_26 (by decide) (fun _ => ?_) (fun k => absurd k (by decide))
  refine lv_iconst (v := 0) hx hb dL_rule_33 (by decide) ?_
  refine wx_V (As := [.int c1, .int c2, .int (bi false)]) (rest := []) (wr := []) ⟨hx, hb, hml, hown, hts⟩ (c_X0_bar l hfl D q F n R cI cZ _ c1 c2 false hw) (cwV 3 hts gL_rule_X0_bar rfl rfl rfl (by decide +kernel) ⟨Nat.le_of_ble_eq_true rfl, Nat.le_of_ble_eq_true rfl⟩) ht hK hP hD hA [0, 1, 2, 3, 4, 5, 6, 7, 8, 9] [] rfl rfl (by decide) rfl (by decide) (by decide) (va_recv hK hP (ci := 0) (q0 := 0) rfl rfl) hS rfl hl.1 rfl (Nat.le_of_ble_eq_true rfl) dL_rule_34 ⟨Nat.le_of_ble_eq_true rfl, Nat.le_of_ble_eq_true rfl⟩ (fun E ce q9 H locs hE hP hS hce hcv hcl => ?_) (fun r9 u9 H locs h9 hP hD hS => ?_)
  · obtain ⟨rfl, hth⟩ := hE
    refine vx_catch (name := "java/lang/IllegalArgumentException") hown [] ⟨0, 70, 71, 26⟩ [⟨0, 70, 77, 28⟩] htab (fun z hz => by cases hz) (by decide) (by decide) (hts (.classLink RL 26 "java/lang/IllegalArgumentException") (by decide +kernel)) (bW_use ht.1 _ bw_ia) hce hcv hcl ?_
    refine lv_astore (lv' := [(5, .ref q9), (0, .ref (q 9)), (1, .int 1), (2, .int c1), (3, .int c2), (4, .int 0)]) hx hb dL_rule_71 hl (by decide) rfl (fun ls hl => ?_)
    refine lv_sipush (v := (-702)) hx hb dL_rule_73 (by decide) ?_
    refine W.widen (k := 2) (n := 12) (Nat.le_of_ble_eq_true rfl) (Nat.le_of_ble_eq_true rfl) ?_
    exact W.iret hx hb hr (fun t ht9 hW => ⟨⟨_, F, rfl, (by show (thBar c1 c2 = 0 → (-702) = (if F 3 (c1 * 2 + c2).toNatClampNeg = 0 then 0 else 1) ∧ F = fBar F c1 c2 false) ∧ (thBar c1 c2 = 1 → (-702) = -702 ∧ F = F); exact ⟨fun h9 => absurd (hth.symm.trans h9) (by decide), fun _ => ⟨rfl, rfl⟩⟩), by rw [ht9]; exact hP, hD⟩, hS.F ht9⟩) hS.2.2 dL_rule_76
  · obtain ⟨rfl, rfl, hth⟩ := h9
    have hP : va_P D vwCl (wX q (fBar F c1 c2 false) (nI n) R cI cZ) H := hP
    have hD : va_D A (wX q (fBar F c1 c2 false) (nI n) R cI cZ) := hD
    refine lv_if_eq (x := (F 3 ((c1 * 2) + c2).toNatClampNeg)) (tgt := 44) hx hb dL_rule_37 (by decide) (fun c_37 => ?_) (fun c_37 => ?_)
    · skip
      refine lv_iconst (v := 0) hx hb dL_rule_44 (by decide) ?_
      refine lv_goto (tgt := 70) hx hb dL_rule_45 (by decide) ?_
      refine W.widen (k := 2) (n := 12) (Nat.le_of_ble_eq_true rfl) (Nat.le_of_ble_eq_true rfl) ?_
      exact W.iret hx hb hr (fun t ht9 hW => ⟨⟨_, (fBar F c1 c2 false), rfl, (by show (thBar c1 c2 = 0 → 0 = (if F 3 (c1 * 2 + c2).toNatClampNeg = 0 then 0 else 1) ∧ (fBar F c1 c2 false) = fBar F c1 c2 false) ∧ (thBar c1 c2 = 1 → 0 = -702 ∧ (fBar F c1 c2 false) = F); exact ⟨fun _ => ⟨(by first | rfl | (simp [bi, eq_true c_37]; done)), rfl⟩, fun h9 => absurd (hth.symm.trans h9) (by decide)⟩), by rw [ht9]; exact hP, hD⟩, hS.F ht9⟩) hS.2.2 dL_rule_70
    · skip
      refine lv_iconst (v := 1) hx hb dL_rule_40 (by decide) ?_
      refine lv_goto (tgt := 70) hx hb dL_rule_41 (by decide) ?_
      refine W.widen (k := 2) (n := 12) (Nat.le_of_ble_eq_true rfl) (Nat.le_of_ble_eq_true rfl) ?_
      exact W.iret hx hb hr (fun t ht9 hW => ⟨⟨_, (fBar F c1 c2 false), rfl, (by show (thBar c1 c2 = 0 → 1 = (if F 3 (c1 * 2 + c2).toNatClampNeg = 0 then 0 else 1) ∧ (fBar F c1 c2 false) = fBar F c1 c2 false) ∧ (thBar c1 c2 = 1 → 1 = -702 ∧ (fBar F c1 c2 false) = F); exact ⟨fun _ => ⟨(by first | rfl | (simp [bi, eq_false c_37]; done)), rfl⟩, fun h9 => absurd (hth.symm.trans h9) (by decide)⟩), by rw [ht9]; exact hP, hD⟩, hS.F ht9⟩) hS.2.2 dL_rule_70
set_option maxHeartbeats 4000000 in
set_option maxRecDepth 100000 in
theorem c_L_rule_d (l : Launch) (hfl : l.stackTraces = false) (D : va_G) (q : Nat → Nat) (F : Nat → Nat → Int32) (n : Nat) (R : Nat → Int32) (cI cZ : ClassId) (sz : Nat) (c1 : Int32) (c2 : Int32) (hw : WF F n) : Met l yL_rule wsL_rule ({ frames := 9, cells := 2, slots := 12, locals := 154 }) (va_Pc [.ref (q 9), .int 2, .int c1, .int c2, .int 0] (lA D (wX q F (nI n) R cI cZ) (tIZ cI cZ) sz)) (va_Qi (fun (r : Int32) (u : Unit) => (thD c1 c2 = 0 → r = sDist c1 c2) ∧ (thD c1 c2 = 1 → r = -702)) (wB D (va_A (wX q F (nI n) R cI cZ) sz) (fun (u : Unit) => (wX q F (nI n) R cI cZ))) (va_A (wX q F (nI n) R cI cZ) sz)) 2 12 (va_A (wX q F (nI n) R cI cZ) sz) := by
  refine la_of (Qc := fun A => (va_Qi (fun (r : Int32) (u : Unit) => (thD c1 c2 = 0 → r = sDist c1 c2) ∧ (thD c1 c2 = 1 → r = -702)) (wB D A (fun (u : Unit) => (wX q F (nI n) R cI cZ))) A)) (hh := [(0, 70, 71, 26), (0, 70, 77, 28)]) (own := RL) (cc := cL_rule) (maxL := 6) (ret := (some .int)) (by decide) rfl rfl (Nat.le_of_ble_eq_true rfl) ?_
  intro p9 e9 s m9 a9 below meth c9 ls A hx hb hr hml hlocks hown hts htab htA hn9 hP hK hD hA hl
  have ht : tB s := htA.tB
  have hS : va_S nA s.heap s.heap [] := va_S.rf
  have hl : lv_has ls 6 [(0, .ref (q 9)), (1, .int 2), (2, .int c1), (3, .int c2), (4, .int 0)] := hl
  refine lv_iload_n hx hb dL_rule_0 rfl (lv_at hl 1 rfl) ?_
  refine lv_if_ne (x := 2) (tgt := 15) hx hb dL_rule_1 (by decide) (fun _ => ?_) (fun k => absurd k (by decide))
  refine lv_iload_n hx hb dL_rule_15 rfl (lv_at hl 1 rfl) ?_
  refine lv_iconst (v := 1) hx hb dL_rule_16 (by decide) ?_
  refine lv_icmp_ne (x := 2) (y := 1) (tgt := 48) hx hb dL_rule_17 (by decide) (fun _ => ?_) (fun k => absurd k (by decide))
  refine lv_iload_n hx hb dL_rule_48 rfl (lv_at hl 1 rfl) ?_
  refine lv_iconst (v := 2) hx hb dL_rule_49 (by decide) ?_
  refine lv_icmp_ne (x := 2) (y := 2) (tgt := 62) hx hb dL_rule_50 (by decide) (fun k => absurd (by decide) k) (fun _ => ?_)
  refine lv_aload_n hx hb dL_rule_53 rfl (lv_at hl 0 rfl) ?_
  refine lv_iload_n hx hb dL_rule_54 rfl (lv_at hl 2 rfl) ?_
  refine lv_iload_n hx hb dL_rule_55 rfl (lv_at hl 3 rfl) ?_
  refine tx_Vi (As := [.int c1, .int c2]) (rest := []) ⟨hx, hb, hml, hown, hts⟩ (c_X0_distance l hfl D q F n R cI cZ c1 c2) (cwV 2 hts gL_rule_X0_distance rfl rfl rfl (by decide +kernel) ⟨Nat.le_of_ble_eq_true rfl, Nat.le_of_ble_eq_true rfl⟩) ht hK hP (hP.sub [0, 1, 2, 3, 4, 5, 6, 7, 8, 9] rfl) (va_recv hK hP (ci := 0) (q0 := 0) rfl rfl) hS rfl hl.1 rfl (Nat.le_of_ble_eq_true rfl) dL_rule_56 ⟨Nat.le_of_ble_eq_true rfl, Nat.le_of_ble_eq_true rfl⟩ (fun E ce q9 H locs hE hP hS hce hcv hcl => ?_) (fun r9 H locs h9 hP hS => ?_)
  · obtain ⟨rfl, hth⟩ := hE
    refine vx_catch (name := "java/lang/IllegalArgumentException") hown [] ⟨0, 70, 71, 26⟩ [⟨0, 70, 77, 28⟩] htab (fun z hz => by cases hz) (by decide) (by decide) (hts (.classLink RL 26 "java/lang/IllegalArgumentException") (by decide +kernel)) (bW_use ht.1 _ bw_ia) hce hcv hcl ?_
    refine lv_astore (lv' := [(5, .ref q9), (0, .ref (q 9)), (1, .int 2), (2, .int c1), (3, .int c2), (4, .int 0)]) hx hb dL_rule_71 hl (by decide) rfl (fun ls hl => ?_)
    refine lv_sipush (v := (-702)) hx hb dL_rule_73 (by decide) ?_
    have hS := nA_S (A := A) hS
    refine W.widen (k := 2) (n := 12) (Nat.le_of_ble_eq_true rfl) (Nat.le_of_ble_eq_true rfl) ?_
    exact W.iret hx hb hr (fun t ht9 hW => ⟨⟨_, (), rfl, (by show (thD c1 c2 = 0 → (-702) = sDist c1 c2) ∧ (thD c1 c2 = 1 → (-702) = -702); exact ⟨fun h9 => absurd (hth.symm.trans h9) (by decide), fun _ => rfl⟩), by rw [ht9]; exact hP, hD⟩, hS.F ht9⟩) hS.2.2 dL_rule_76
  · obtain ⟨rfl, hth⟩ := h9
    refine lv_goto (tgt := 70) hx hb dL_rule_59 (by decide) ?_
    have hS := nA_S (A := A) hS
    refine W.widen (k := 2) (n := 12) (Nat.le_of_ble_eq_true rfl) (Nat.le_of_ble_eq_true rfl) ?_
    exact W.iret hx hb hr (fun t ht9 hW => ⟨⟨_, (), rfl, (by show (thD c1 c2 = 0 → (sDist c1 c2) = sDist c1 c2) ∧ (thD c1 c2 = 1 → (sDist c1 c2) = -702); exact ⟨fun _ => (by first | rfl | (simp [bi]; done)), fun h9 => absurd (hth.symm.trans h9) (by decide)⟩), by rw [ht9]; exact hP, hD⟩, hS.F ht9⟩) hS.2.2 dL_rule_70
set_option maxHeartbeats 4000000 in
set_option maxRecDepth 100000 in
theorem c_L_rule_add (l : Launch) (hfl : l.stackTraces = false) (D : va_G) (q : Nat → Nat) (F : Nat → Nat → Int32) (n : Nat) (R : Nat → Int32) (cI cZ : ClassId) (sz : Nat) (c1 : Int32) (c2 : Int32) (x1 : Int32) (hw : WF F n) : Met l yL_rule wsL_rule ({ frames := 10, cells := 5, slots := 30, locals := 177 }) (va_Pc [.ref (q 9), .int 3, .int c1, .int c2, .int x1] (lA D (wX q F (nI n) R cI cZ) (tIZ cI cZ) sz)) (va_Qi (fun (r : Int32) (u : (Nat → Nat → Int32) × Nat) => (thAdd n c1 c2 x1 = 0 → r = nI n ∧ u.1 = fAdd F n c1 c2 x1 ∧ u.2 = n + 1) ∧ (thAdd n c1 c2 x1 = 1 → r = -702 ∧ u.1 = F ∧ u.2 = n) ∧ (thAdd n c1 c2 x1 = 2 → r = -703 ∧ u.1 = F ∧ u.2 = n)) (wB D (va_A (wX q F (nI n) R cI cZ) sz) (fun (u : (Nat → Nat → Int32) × Nat) => wX q u.1 (nI u.2) R cI cZ)) (va_A (wX q F (nI n) R cI cZ) sz)) 5 30 (va_A (wX q F (nI n) R cI cZ) sz) := by
  refine la_of (Qc := fun A => (va_Qi (fun (r : Int32) (u : (Nat → Nat → Int32) × Nat) => (thAdd n c1 c2 x1 = 0 → r = nI n ∧ u.1 = fAdd F n c1 c2 x1 ∧ u.2 = n + 1) ∧ (thAdd n c1 c2 x1 = 1 → r = -702 ∧ u.1 = F ∧ u.2 = n) ∧ (thAdd n c1 c2 x1 = 2 → r = -703 ∧ u.1 = F ∧ u.2 = n)) (wB D A (fun (u : (Nat → Nat → Int32) × Nat) => wX q u.1 (nI u.2) R cI cZ)) A)) (hh := [(0, 70, 71, 26), (0, 70, 77, 28)]) (own := RL) (cc := cL_rule) (maxL := 6) (ret := (some .int)) (by decide) rfl rfl (Nat.le_of_ble_eq_true rfl) ?_
  intro p9 e9 s m9 a9 below meth c9 ls A hx hb hr hml hlocks hown hts htab htA hn9 hP hK hD hA hl
  have ht : tB s := htA.tB
  have hS : va_S nA s.heap s.heap [] := va_S.rf
  have hl : lv_has ls 6 [(0, .ref (q 9)), (1, .int 3), (2, .int c1), (3, .int c2), (4, .int x1)] := hl
  refine lv_iload_n hx hb dL_rule_0 rfl (lv_at hl 1 rfl) ?_
  refine lv_if_ne (x := 3) (tgt := 15) hx hb dL_rule_1 (by decide) (fun _ => ?_) (fun k => absurd k (by decide))
  refine lv_iload_n hx hb dL_rule_15 rfl (lv_at hl 1 rfl) ?_
  refine lv_iconst (v := 1) hx hb dL_rule_16 (by decide) ?_
  refine lv_icmp_ne (x := 3) (y := 1) (tgt := 48) hx hb dL_rule_17 (by decide) (fun _ => ?_) (fun k => absurd k (by decide))
  refine lv_iload_n hx hb dL_rule_48 rfl (lv_at hl 1 rfl) ?_
  refine lv_iconst (v := 2) hx hb dL_rule_49 (by decide) ?_
  refine lv_icmp_ne (x := 3) (y := 2) (tgt := 62) hx hb dL_rule_50 (by decide) (fun _ => ?_) (fun k => absurd k (by decide))
  refine lv_aload_n hx hb dL_rule_62 rfl (lv_at hl 0 rfl) ?_
  refine lv_iload_n hx hb dL_rule_63 rfl (lv_at hl 2 rfl) ?_
  refine lv_iload_n hx hb dL_rule_64 rfl (lv_at hl 3 rfl) ?_
  refine lv_iload hx hb dL_rule_65 (lv_at hl 4 rfl) ?_
  refine wx_V (As := [.int c1, .int c2, .int x1]) (rest := []) (wr := []) ⟨hx, hb, hml, hown, hts⟩ (c_X0_add l hfl D q F n R cI cZ _ c1 c2 x1 hw) (cwV 3 hts gL_rule_X0_add rfl rfl rfl (by decide +kernel) ⟨Nat.le_of_ble_eq_true rfl, Nat.le_of_ble_eq_true rfl⟩) ht hK hP hD hA [0, 1, 2, 3, 4, 5, 6, 7, 8, 9] [] rfl rfl (by decide) rfl (by decide) (by decide) (va_recv hK hP (ci := 0) (q0 := 0) rfl rfl) hS rfl hl.1 rfl (Nat.le_of_ble_eq_true rfl) dL_rule_67 ⟨Nat.le_of_ble_eq_true rfl, Nat.le_of_ble_eq_true rfl⟩ (fun E ce q9 H locs hE hP hS hce hcv hcl => ?_) (fun r9 u9 H locs h9 hP hD hS => ?_)
  · rcases hE with ⟨rfl, hth⟩ | ⟨rfl, hth⟩
    · skip
      refine vx_catch (name := "java/lang/IllegalArgumentException") hown [] ⟨0, 70, 71, 26⟩ [⟨0, 70, 77, 28⟩] htab (fun z hz => by cases hz) (by decide) (by decide) (hts (.classLink RL 26 "java/lang/IllegalArgumentException") (by decide +kernel)) (bW_use ht.1 _ bw_ia) hce hcv hcl ?_
      refine lv_astore (lv' := [(5, .ref q9), (0, .ref (q 9)), (1, .int 3), (2, .int c1), (3, .int c2), (4, .int x1)]) hx hb dL_rule_71 hl (by decide) rfl (fun ls hl => ?_)
      refine lv_sipush (v := (-702)) hx hb dL_rule_73 (by decide) ?_
      refine W.widen (k := 5) (n := 30) (Nat.le_of_ble_eq_true rfl) (Nat.le_of_ble_eq_true rfl) ?_
      exact W.iret hx hb hr (fun t ht9 hW => ⟨⟨_, (F, n), rfl, (by show (thAdd n c1 c2 x1 = 0 → (-702) = nI n ∧ (F, n).1 = fAdd F n c1 c2 x1 ∧ (F, n).2 = n + 1) ∧ (thAdd n c1 c2 x1 = 1 → (-702) = -702 ∧ (F, n).1 = F ∧ (F, n).2 = n) ∧ (thAdd n c1 c2 x1 = 2 → (-702) = -703 ∧ (F, n).1 = F ∧ (F, n).2 = n); exact ⟨fun h9 => absurd (hth.symm.trans h9) (by decide), fun _ => ⟨rfl, rfl, rfl⟩, fun h9 => absurd (hth.symm.trans h9) (by decide)⟩), by rw [ht9]; exact hP, hD⟩, hS.F ht9⟩) hS.2.2 dL_rule_76
    · skip
      refine vx_catch (name := "java/lang/IllegalStateException") hown [⟨0, 70, 71, 26⟩] ⟨0, 70, 77, 28⟩ [] htab (fun z hz => by rw [List.mem_singleton.mp hz]; exact Or.inr ⟨by decide, "java/lang/IllegalArgumentException", hts (.classLink RL 26 "java/lang/IllegalArgumentException") (by decide +kernel), hn9.1⟩) (by decide) (by decide) (hts (.classLink RL 28 "java/lang/IllegalStateException") (by decide +kernel)) (bW_use ht.1 _ bw_is) hce hcv hcl ?_
      refine lv_astore (lv' := [(5, .ref q9), (0, .ref (q 9)), (1, .int 3), (2, .int c1), (3, .int c2), (4, .int x1)]) hx hb dL_rule_77 hl (by decide) rfl (fun ls hl => ?_)
      refine lv_sipush (v := (-703)) hx hb dL_rule_79 (by decide) ?_
      refine W.widen (k := 5) (n := 30) (Nat.le_of_ble_eq_true rfl) (Nat.le_of_ble_eq_true rfl) ?_
      exact W.iret hx hb hr (fun t ht9 hW => ⟨⟨_, (F, n), rfl, (by show (thAdd n c1 c2 x1 = 0 → (-703) = nI n ∧ (F, n).1 = fAdd F n c1 c2 x1 ∧ (F, n).2 = n + 1) ∧ (thAdd n c1 c2 x1 = 1 → (-703) = -702 ∧ (F, n).1 = F ∧ (F, n).2 = n) ∧ (thAdd n c1 c2 x1 = 2 → (-703) = -703 ∧ (F, n).1 = F ∧ (F, n).2 = n); exact ⟨fun h9 => absurd (hth.symm.trans h9) (by decide), fun h9 => absurd (hth.symm.trans h9) (by decide), fun _ => ⟨rfl, rfl, rfl⟩⟩), by rw [ht9]; exact hP, hD⟩, hS.F ht9⟩) hS.2.2 dL_rule_82
  · obtain ⟨rfl, rfl, hth⟩ := h9
    have hP : va_P D vwCl (wX q (fAdd F n c1 c2 x1) (nI (n + 1)) R cI cZ) H := hP
    have hD : va_D A (wX q (fAdd F n c1 c2 x1) (nI (n + 1)) R cI cZ) := hD
    refine W.widen (k := 5) (n := 30) (Nat.le_of_ble_eq_true rfl) (Nat.le_of_ble_eq_true rfl) ?_
    exact W.iret hx hb hr (fun t ht9 hW => ⟨⟨_, ((fAdd F n c1 c2 x1), (n + 1)), rfl, (by show (thAdd n c1 c2 x1 = 0 → (nI n) = nI n ∧ ((fAdd F n c1 c2 x1), (n + 1)).1 = fAdd F n c1 c2 x1 ∧ ((fAdd F n c1 c2 x1), (n + 1)).2 = n + 1) ∧ (thAdd n c1 c2 x1 = 1 → (nI n) = -702 ∧ ((fAdd F n c1 c2 x1), (n + 1)).1 = F ∧ ((fAdd F n c1 c2 x1), (n + 1)).2 = n) ∧ (thAdd n c1 c2 x1 = 2 → (nI n) = -703 ∧ ((fAdd F n c1 c2 x1), (n + 1)).1 = F ∧ ((fAdd F n c1 c2 x1), (n + 1)).2 = n); exact ⟨fun _ => ⟨(by first | rfl | (simp [bi]; done)), rfl, rfl⟩, fun h9 => absurd (hth.symm.trans h9) (by decide), fun h9 => absurd (hth.symm.trans h9) (by decide)⟩), by rw [ht9]; exact hP, hD⟩, hS.F ht9⟩) hS.2.2 dL_rule_70
set_option maxHeartbeats 4000000 in
set_option maxRecDepth 100000 in
theorem c_L_of_0 (l : Launch) (hfl : l.stackTraces = false) (D : va_G) (q : Nat → Nat) (F : Nat → Nat → Int32) (n : Nat) (R : Nat → Int32) (cI cZ : ClassId) (sz : Nat) (v : Int32) (x1 : Int32) (hw : WF F n) : Met l yL_of wsL_of ({ frames := 9, cells := 2, slots := 12, locals := 155 }) (va_Pc [.ref (q 9), .int 0, .int v, .int x1] (lA D (wX q F (nI n) R cI cZ) (tIZ cI cZ) sz)) (va_Qi (fun (r : Int32) (u : Nat → Nat → Int32) => (thQ n v x1 = 0 → r = F 6 (gi v) ∧ u = fQ F (gi v) x1) ∧ (thQ n v x1 = 1 → r = -701 ∧ u = F) ∧ (thQ n v x1 = 2 → r = -702 ∧ u = F)) (wB D (va_A (wX q F (nI n) R cI cZ) sz) (fun (u : Nat → Nat → Int32) => wX q u (nI n) R cI cZ)) (va_A (wX q F (nI n) R cI cZ) sz)) 2 12 (va_A (wX q F (nI n) R cI cZ) sz) := by
  refine la_of (Qc := fun A => (va_Qi (fun (r : Int32) (u : Nat → Nat → Int32) => (thQ n v x1 = 0 → r = F 6 (gi v) ∧ u = fQ F (gi v) x1) ∧ (thQ n v x1 = 1 → r = -701 ∧ u = F) ∧ (thQ n v x1 = 2 → r = -702 ∧ u = F)) (wB D A (fun (u : Nat → Nat → Int32) => wX q u (nI n) R cI cZ)) A)) (hh := [(0, 183, 184, 70), (0, 183, 190, 26)]) (own := RL) (cc := cL_of) (maxL := 5) (ret := (some .int)) (by decide) rfl rfl (Nat.le_of_ble_eq_true rfl) ?_
  intro p9 e9 s m9 a9 below meth c9 ls A hx hb hr hml hlocks hown hts htab htA hn9 hP hK hD hA hl
  have ht : tB s := htA.tB
  have hS : va_S nA s.heap s.heap [] := va_S.rf
  have hl : lv_has ls 5 [(0, .ref (q 9)), (1, .int 0), (2, .int v), (3, .int x1)] := hl
  refine lv_iload_n hx hb dL_of_0 rfl (lv_at hl 1 rfl) ?_
  refine lv_if_ne (x := 0) (tgt := 13) hx hb dL_of_1 (by decide) (fun k => absurd (by decide) k) (fun _ => ?_)
  refine lv_aload_n hx hb dL_of_4 rfl (lv_at hl 0 rfl) ?_
  refine lv_iload_n hx hb dL_of_5 rfl (lv_at hl 2 rfl) ?_
  refine lv_iload_n hx hb dL_of_6 rfl (lv_at hl 3 rfl) ?_
  refine wx_V (As := [.int v, .int x1]) (rest := []) (wr := []) ⟨hx, hb, hml, hown, hts⟩ (c_X0_setQuantity l hfl D q F n R cI cZ _ v x1 hw) (cwV 2 hts gL_of_X0_setQuantity rfl rfl rfl (by decide +kernel) ⟨Nat.le_of_ble_eq_true rfl, Nat.le_of_ble_eq_true rfl⟩) ht hK hP hD hA [0, 1, 2, 3, 4, 5, 6, 7, 8, 9] [] rfl rfl (by decide) rfl (by decide) (by decide) (va_recv hK hP (ci := 0) (q0 := 0) rfl rfl) hS rfl hl.1 rfl (Nat.le_of_ble_eq_true rfl) dL_of_7 ⟨Nat.le_of_ble_eq_true rfl, Nat.le_of_ble_eq_true rfl⟩ (fun E ce q9 H locs hE hP hS hce hcv hcl => ?_) (fun r9 u9 H locs h9 hP hD hS => ?_)
  · rcases hE with ⟨rfl, hth⟩ | ⟨rfl, hth⟩
    · skip
      refine vx_catch (name := "java/lang/IndexOutOfBoundsException") hown [] ⟨0, 183, 184, 70⟩ [⟨0, 183, 190, 26⟩] htab (fun z hz => by cases hz) (by decide) (by decide) (hts (.classLink RL 70 "java/lang/IndexOutOfBoundsException") (by decide +kernel)) (bW_use ht.1 _ bw_io) hce hcv hcl ?_
      refine lv_astore (lv' := [(4, .ref q9), (0, .ref (q 9)), (1, .int 0), (2, .int v), (3, .int x1)]) hx hb dL_of_184 hl (by decide) rfl (fun ls hl => ?_)
      refine lv_sipush (v := (-701)) hx hb dL_of_186 (by decide) ?_
      refine W.widen (k := 2) (n := 12) (Nat.le_of_ble_eq_true rfl) (Nat.le_of_ble_eq_true rfl) ?_
      exact W.iret hx hb hr (fun t ht9 hW => ⟨⟨_, F, rfl, (by show (thQ n v x1 = 0 → (-701) = F 6 (gi v) ∧ F = fQ F (gi v) x1) ∧ (thQ n v x1 = 1 → (-701) = -701 ∧ F = F) ∧ (thQ n v x1 = 2 → (-701) = -702 ∧ F = F); exact ⟨fun h9 => absurd (hth.symm.trans h9) (by decide), fun _ => ⟨rfl, rfl⟩, fun h9 => absurd (hth.symm.trans h9) (by decide)⟩), by rw [ht9]; exact hP, hD⟩, hS.F ht9⟩) hS.2.2 dL_of_189
    · skip
      refine vx_catch (name := "java/lang/IllegalArgumentException") hown [⟨0, 183, 184, 70⟩] ⟨0, 183, 190, 26⟩ [] htab (fun z hz => by rw [List.mem_singleton.mp hz]; exact Or.inr ⟨by decide, "java/lang/IndexOutOfBoundsException", hts (.classLink RL 70 "java/lang/IndexOutOfBoundsException") (by decide +kernel), hn9.2⟩) (by decide) (by decide) (hts (.classLink RL 26 "java/lang/IllegalArgumentException") (by decide +kernel)) (bW_use ht.1 _ bw_ia) hce hcv hcl ?_
      refine lv_astore (lv' := [(4, .ref q9), (0, .ref (q 9)), (1, .int 0), (2, .int v), (3, .int x1)]) hx hb dL_of_190 hl (by decide) rfl (fun ls hl => ?_)
      refine lv_sipush (v := (-702)) hx hb dL_of_192 (by decide) ?_
      refine W.widen (k := 2) (n := 12) (Nat.le_of_ble_eq_true rfl) (Nat.le_of_ble_eq_true rfl) ?_
      exact W.iret hx hb hr (fun t ht9 hW => ⟨⟨_, F, rfl, (by show (thQ n v x1 = 0 → (-702) = F 6 (gi v) ∧ F = fQ F (gi v) x1) ∧ (thQ n v x1 = 1 → (-702) = -701 ∧ F = F) ∧ (thQ n v x1 = 2 → (-702) = -702 ∧ F = F); exact ⟨fun h9 => absurd (hth.symm.trans h9) (by decide), fun h9 => absurd (hth.symm.trans h9) (by decide), fun _ => ⟨rfl, rfl⟩⟩), by rw [ht9]; exact hP, hD⟩, hS.F ht9⟩) hS.2.2 dL_of_195
  · obtain ⟨rfl, rfl, hth⟩ := h9
    have hP : va_P D vwCl (wX q (fQ F (gi v) x1) (nI n) R cI cZ) H := hP
    have hD : va_D A (wX q (fQ F (gi v) x1) (nI n) R cI cZ) := hD
    refine lv_goto (tgt := 183) hx hb dL_of_10 (by decide) ?_
    refine W.widen (k := 2) (n := 12) (Nat.le_of_ble_eq_true rfl) (Nat.le_of_ble_eq_true rfl) ?_
    exact W.iret hx hb hr (fun t ht9 hW => ⟨⟨_, (fQ F (gi v) x1), rfl, (by show (thQ n v x1 = 0 → (F 6 (gi v)) = F 6 (gi v) ∧ (fQ F (gi v) x1) = fQ F (gi v) x1) ∧ (thQ n v x1 = 1 → (F 6 (gi v)) = -701 ∧ (fQ F (gi v) x1) = F) ∧ (thQ n v x1 = 2 → (F 6 (gi v)) = -702 ∧ (fQ F (gi v) x1) = F); exact ⟨fun _ => ⟨(by first | rfl | (simp [bi]; done)), rfl⟩, fun h9 => absurd (hth.symm.trans h9) (by decide), fun h9 => absurd (hth.symm.trans h9) (by decide)⟩), by rw [ht9]; exact hP, hD⟩, hS.F ht9⟩) hS.2.2 dL_of_183
set_option maxHeartbeats 4000000 in
set_option maxRecDepth 100000 in
theorem c_L_of_1 (l : Launch) (hfl : l.stackTraces = false) (D : va_G) (q : Nat → Nat) (F : Nat → Nat → Int32) (n : Nat) (R : Nat → Int32) (cI cZ : ClassId) (sz : Nat) (v : Int32) (x1 : Int32) (hw : WF F n) : Met l yL_of wsL_of ({ frames := 9, cells := 2, slots := 12, locals := 155 }) (va_Pc [.ref (q 9), .int 1, .int v, .int x1] (lA D (wX q F (nI n) R cI cZ) (tIZ cI cZ) sz)) (va_Qi (fun (r : Int32) (u : Nat → Nat → Int32) => (thP n v x1 = 0 → r = F 7 (gi v) ∧ u = fP F (gi v) x1) ∧ (thP n v x1 = 1 → r = -701 ∧ u = F) ∧ (thP n v x1 = 2 → r = -702 ∧ u = F)) (wB D (va_A (wX q F (nI n) R cI cZ) sz) (fun (u : Nat → Nat → Int32) => wX q u (nI n) R cI cZ)) (va_A (wX q F (nI n) R cI cZ) sz)) 2 12 (va_A (wX q F (nI n) R cI cZ) sz) := by
  refine la_of (Qc := fun A => (va_Qi (fun (r : Int32) (u : Nat → Nat → Int32) => (thP n v x1 = 0 → r = F 7 (gi v) ∧ u = fP F (gi v) x1) ∧ (thP n v x1 = 1 → r = -701 ∧ u = F) ∧ (thP n v x1 = 2 → r = -702 ∧ u = F)) (wB D A (fun (u : Nat → Nat → Int32) => wX q u (nI n) R cI cZ)) A)) (hh := [(0, 183, 184, 70), (0, 183, 190, 26)]) (own := RL) (cc := cL_of) (maxL := 5) (ret := (some .int)) (by decide) rfl rfl (Nat.le_of_ble_eq_true rfl) ?_
  intro p9 e9 s m9 a9 below meth c9 ls A hx hb hr hml hlocks hown hts htab htA hn9 hP hK hD hA hl
  have ht : tB s := htA.tB
  have hS : va_S nA s.heap s.heap [] := va_S.rf
  have hl : lv_has ls 5 [(0, .ref (q 9)), (1, .int 1), (2, .int v), (3, .int x1)] := hl
  refine lv_iload_n hx hb dL_of_0 rfl (lv_at hl 1 rfl) ?_
  refine lv_if_ne (x := 1) (tgt := 13) hx hb dL_of_1 (by decide) (fun _ => ?_) (fun k => absurd k (by decide))
  refine lv_iload_n hx hb dL_of_13 rfl (lv_at hl 1 rfl) ?_
  refine lv_iconst (v := 1) hx hb dL_of_14 (by decide) ?_
  refine lv_icmp_ne (x := 1) (y := 1) (tgt := 27) hx hb dL_of_15 (by decide) (fun k => absurd (by decide) k) (fun _ => ?_)
  refine lv_aload_n hx hb dL_of_18 rfl (lv_at hl 0 rfl) ?_
  refine lv_iload_n hx hb dL_of_19 rfl (lv_at hl 2 rfl) ?_
  refine lv_iload_n hx hb dL_of_20 rfl (lv_at hl 3 rfl) ?_
  refine wx_V (As := [.int v, .int x1]) (rest := []) (wr := []) ⟨hx, hb, hml, hown, hts⟩ (c_X0_put l hfl D q F n R cI cZ _ v x1 hw) (cwV 2 hts gL_of_X0_put rfl rfl rfl (by decide +kernel) ⟨Nat.le_of_ble_eq_true rfl, Nat.le_of_ble_eq_true rfl⟩) ht hK hP hD hA [0, 1, 2, 3, 4, 5, 6, 7, 8, 9] [] rfl rfl (by decide) rfl (by decide) (by decide) (va_recv hK hP (ci := 0) (q0 := 0) rfl rfl) hS rfl hl.1 rfl (Nat.le_of_ble_eq_true rfl) dL_of_21 ⟨Nat.le_of_ble_eq_true rfl, Nat.le_of_ble_eq_true rfl⟩ (fun E ce q9 H locs hE hP hS hce hcv hcl => ?_) (fun r9 u9 H locs h9 hP hD hS => ?_)
  · rcases hE with ⟨rfl, hth⟩ | ⟨rfl, hth⟩
    · skip
      refine vx_catch (name := "java/lang/IndexOutOfBoundsException") hown [] ⟨0, 183, 184, 70⟩ [⟨0, 183, 190, 26⟩] htab (fun z hz => by cases hz) (by decide) (by decide) (hts (.classLink RL 70 "java/lang/IndexOutOfBoundsException") (by decide +kernel)) (bW_use ht.1 _ bw_io) hce hcv hcl ?_
      refine lv_astore (lv' := [(4, .ref q9), (0, .ref (q 9)), (1, .int 1), (2, .int v), (3, .int x1)]) hx hb dL_of_184 hl (by decide) rfl (fun ls hl => ?_)
      refine lv_sipush (v := (-701)) hx hb dL_of_186 (by decide) ?_
      refine W.widen (k := 2) (n := 12) (Nat.le_of_ble_eq_true rfl) (Nat.le_of_ble_eq_true rfl) ?_
      exact W.iret hx hb hr (fun t ht9 hW => ⟨⟨_, F, rfl, (by show (thP n v x1 = 0 → (-701) = F 7 (gi v) ∧ F = fP F (gi v) x1) ∧ (thP n v x1 = 1 → (-701) = -701 ∧ F = F) ∧ (thP n v x1 = 2 → (-701) = -702 ∧ F = F); exact ⟨fun h9 => absurd (hth.symm.trans h9) (by decide), fun _ => ⟨rfl, rfl⟩, fun h9 => absurd (hth.symm.trans h9) (by decide)⟩), by rw [ht9]; exact hP, hD⟩, hS.F ht9⟩) hS.2.2 dL_of_189
    · skip
      refine vx_catch (name := "java/lang/IllegalArgumentException") hown [⟨0, 183, 184, 70⟩] ⟨0, 183, 190, 26⟩ [] htab (fun z hz => by rw [List.mem_singleton.mp hz]; exact Or.inr ⟨by decide, "java/lang/IndexOutOfBoundsException", hts (.classLink RL 70 "java/lang/IndexOutOfBoundsException") (by decide +kernel), hn9.2⟩) (by decide) (by decide) (hts (.classLink RL 26 "java/lang/IllegalArgumentException") (by decide +kernel)) (bW_use ht.1 _ bw_ia) hce hcv hcl ?_
      refine lv_astore (lv' := [(4, .ref q9), (0, .ref (q 9)), (1, .int 1), (2, .int v), (3, .int x1)]) hx hb dL_of_190 hl (by decide) rfl (fun ls hl => ?_)
      refine lv_sipush (v := (-702)) hx hb dL_of_192 (by decide) ?_
      refine W.widen (k := 2) (n := 12) (Nat.le_of_ble_eq_true rfl) (Nat.le_of_ble_eq_true rfl) ?_
      exact W.iret hx hb hr (fun t ht9 hW => ⟨⟨_, F, rfl, (by show (thP n v x1 = 0 → (-702) = F 7 (gi v) ∧ F = fP F (gi v) x1) ∧ (thP n v x1 = 1 → (-702) = -701 ∧ F = F) ∧ (thP n v x1 = 2 → (-702) = -702 ∧ F = F); exact ⟨fun h9 => absurd (hth.symm.trans h9) (by decide), fun h9 => absurd (hth.symm.trans h9) (by decide), fun _ => ⟨rfl, rfl⟩⟩), by rw [ht9]; exact hP, hD⟩, hS.F ht9⟩) hS.2.2 dL_of_195
  · obtain ⟨rfl, rfl, hth⟩ := h9
    have hP : va_P D vwCl (wX q (fP F (gi v) x1) (nI n) R cI cZ) H := hP
    have hD : va_D A (wX q (fP F (gi v) x1) (nI n) R cI cZ) := hD
    refine lv_goto (tgt := 183) hx hb dL_of_24 (by decide) ?_
    refine W.widen (k := 2) (n := 12) (Nat.le_of_ble_eq_true rfl) (Nat.le_of_ble_eq_true rfl) ?_
    exact W.iret hx hb hr (fun t ht9 hW => ⟨⟨_, (fP F (gi v) x1), rfl, (by show (thP n v x1 = 0 → (F 7 (gi v)) = F 7 (gi v) ∧ (fP F (gi v) x1) = fP F (gi v) x1) ∧ (thP n v x1 = 1 → (F 7 (gi v)) = -701 ∧ (fP F (gi v) x1) = F) ∧ (thP n v x1 = 2 → (F 7 (gi v)) = -702 ∧ (fP F (gi v) x1) = F); exact ⟨fun _ => ⟨(by first | rfl | (simp [bi]; done)), rfl⟩, fun h9 => absurd (hth.symm.trans h9) (by decide), fun h9 => absurd (hth.symm.trans h9) (by decide)⟩), by rw [ht9]; exact hP, hD⟩, hS.F ht9⟩) hS.2.2 dL_of_183
set_option maxHeartbeats 4000000 in
set_option maxRecDepth 100000 in
theorem c_L_of_5 (l : Launch) (hfl : l.stackTraces = false) (D : va_G) (q : Nat → Nat) (F : Nat → Nat → Int32) (n : Nat) (R : Nat → Int32) (cI cZ : ClassId) (sz : Nat) (v : Int32) (w : Int32) (hw : WF F n) : Met l yL_of wsL_of ({ frames := 9, cells := 3, slots := 18, locals := 155 }) (va_Pc [.ref (q 9), .int 5, .int v, .int w] (lA D (wX q F (nI n) R cI cZ) (tIZ cI cZ) sz)) (va_Qi (fun (r : Int32) (u : Unit) => (th2 n v w = 1 → r = -701) ∧ (th2 n v w = 2 → r = -702)) (wB D (va_A (wX q F (nI n) R cI cZ) sz) (fun (u : Unit) => (wX q F (nI n) R cI cZ))) (va_A (wX q F (nI n) R cI cZ) sz)) 3 18 (va_A (wX q F (nI n) R cI cZ) sz) := by
  refine la_of (Qc := fun A => (va_Qi (fun (r : Int32) (u : Unit) => (th2 n v w = 1 → r = -701) ∧ (th2 n v w = 2 → r = -702)) (wB D A (fun (u : Unit) => (wX q F (nI n) R cI cZ))) A)) (hh := [(0, 183, 184, 70), (0, 183, 190, 26)]) (own := RL) (cc := cL_of) (maxL := 5) (ret := (some .int)) (by decide) rfl rfl (Nat.le_of_ble_eq_true rfl) ?_
  intro p9 e9 s m9 a9 below meth c9 ls A hx hb hr hml hlocks hown hts htab htA hn9 hP hK hD hA hl
  have ht : tB s := htA.tB
  have hS : va_S nA s.heap s.heap [] := va_S.rf
  have hl : lv_has ls 5 [(0, .ref (q 9)), (1, .int 5), (2, .int v), (3, .int w)] := hl
  refine lv_iload_n hx hb dL_of_0 rfl (lv_at hl 1 rfl) ?_
  refine lv_if_ne (x := 5) (tgt := 13) hx hb dL_of_1 (by decide) (fun _ => ?_) (fun k => absurd k (by decide))
  refine lv_iload_n hx hb dL_of_13 rfl (lv_at hl 1 rfl) ?_
  refine lv_iconst (v := 1) hx hb dL_of_14 (by decide) ?_
  refine lv_icmp_ne (x := 5) (y := 1) (tgt := 27) hx hb dL_of_15 (by decide) (fun _ => ?_) (fun k => absurd k (by decide))
  refine lv_iload_n hx hb dL_of_27 rfl (lv_at hl 1 rfl) ?_
  refine lv_iconst (v := 2) hx hb dL_of_28 (by decide) ?_
  refine lv_icmp_ne (x := 5) (y := 2) (tgt := 40) hx hb dL_of_29 (by decide) (fun _ => ?_) (fun k => absurd k (by decide))
  refine lv_iload_n hx hb dL_of_40 rfl (lv_at hl 1 rfl) ?_
  refine lv_iconst (v := 3) hx hb dL_of_41 (by decide) ?_
  refine lv_icmp_ne (x := 5) (y := 3) (tgt := 61) hx hb dL_of_42 (by decide) (fun _ => ?_) (fun k => absurd k (by decide))
  refine lv_iload_n hx hb dL_of_61 rfl (lv_at hl 1 rfl) ?_
  refine lv_iconst (v := 4) hx hb dL_of_62 (by decide) ?_
  refine lv_icmp_ne (x := 5) (y := 4) (tgt := 82) hx hb dL_of_63 (by decide) (fun _ => ?_) (fun k => absurd k (by decide))
  refine lv_iload_n hx hb dL_of_82 rfl (lv_at hl 1 rfl) ?_
  refine lv_iconst (v := 5) hx hb dL_of_83 (by decide) ?_
  refine lv_icmp_ne (x := 5) (y := 5) (tgt := 96) hx hb dL_of_84 (by decide) (fun k => absurd (by decide) k) (fun _ => ?_)
  refine lv_aload_n hx hb dL_of_87 rfl (lv_at hl 0 rfl) ?_
  refine lv_iload_n hx hb dL_of_88 rfl (lv_at hl 2 rfl) ?_
  refine lv_iload_n hx hb dL_of_89 rfl (lv_at hl 3 rfl) ?_
  refine tx_Vi (As := [.int v, .int w]) (rest := []) ⟨hx, hb, hml, hown, hts⟩ (c_X0_need l hfl D q F n R cI cZ v w hw) (cwV 2 hts gL_of_X0_need rfl rfl rfl (by decide +kernel) ⟨Nat.le_of_ble_eq_true rfl, Nat.le_of_ble_eq_true rfl⟩) ht hK hP (hP.sub [0, 1, 2, 3, 4, 5, 6, 7, 8, 9] rfl) (va_recv hK hP (ci := 0) (q0 := 0) rfl rfl) hS rfl hl.1 rfl (Nat.le_of_ble_eq_true rfl) dL_of_90 ⟨Nat.le_of_ble_eq_true rfl, Nat.le_of_ble_eq_true rfl⟩ (fun E ce q9 H locs hE hP hS hce hcv hcl => ?_) (fun r9 H locs h9 hP hS => ?_)
  · rcases hE with ⟨rfl, hth⟩ | ⟨rfl, hth⟩
    · skip
      refine vx_catch (name := "java/lang/IndexOutOfBoundsException") hown [] ⟨0, 183, 184, 70⟩ [⟨0, 183, 190, 26⟩] htab (fun z hz => by cases hz) (by decide) (by decide) (hts (.classLink RL 70 "java/lang/IndexOutOfBoundsException") (by decide +kernel)) (bW_use ht.1 _ bw_io) hce hcv hcl ?_
      refine lv_astore (lv' := [(4, .ref q9), (0, .ref (q 9)), (1, .int 5), (2, .int v), (3, .int w)]) hx hb dL_of_184 hl (by decide) rfl (fun ls hl => ?_)
      refine lv_sipush (v := (-701)) hx hb dL_of_186 (by decide) ?_
      have hS := nA_S (A := A) hS
      refine W.widen (k := 3) (n := 18) (Nat.le_of_ble_eq_true rfl) (Nat.le_of_ble_eq_true rfl) ?_
      exact W.iret hx hb hr (fun t ht9 hW => ⟨⟨_, (), rfl, (by show (th2 n v w = 1 → (-701) = -701) ∧ (th2 n v w = 2 → (-701) = -702); exact ⟨fun _ => rfl, fun h9 => absurd (hth.symm.trans h9) (by decide)⟩), by rw [ht9]; exact hP, hD⟩, hS.F ht9⟩) hS.2.2 dL_of_189
    · skip
      refine vx_catch (name := "java/lang/IllegalArgumentException") hown [⟨0, 183, 184, 70⟩] ⟨0, 183, 190, 26⟩ [] htab (fun z hz => by rw [List.mem_singleton.mp hz]; exact Or.inr ⟨by decide, "java/lang/IndexOutOfBoundsException", hts (.classLink RL 70 "java/lang/IndexOutOfBoundsException") (by decide +kernel), hn9.2⟩) (by decide) (by decide) (hts (.classLink RL 26 "java/lang/IllegalArgumentException") (by decide +kernel)) (bW_use ht.1 _ bw_ia) hce hcv hcl ?_
      refine lv_astore (lv' := [(4, .ref q9), (0, .ref (q 9)), (1, .int 5), (2, .int v), (3, .int w)]) hx hb dL_of_190 hl (by decide) rfl (fun ls hl => ?_)
      refine lv_sipush (v := (-702)) hx hb dL_of_192 (by decide) ?_
      have hS := nA_S (A := A) hS
      refine W.widen (k := 3) (n := 18) (Nat.le_of_ble_eq_true rfl) (Nat.le_of_ble_eq_true rfl) ?_
      exact W.iret hx hb hr (fun t ht9 hW => ⟨⟨_, (), rfl, (by show (th2 n v w = 1 → (-702) = -701) ∧ (th2 n v w = 2 → (-702) = -702); exact ⟨fun h9 => absurd (hth.symm.trans h9) (by decide), fun _ => rfl⟩), by rw [ht9]; exact hP, hD⟩, hS.F ht9⟩) hS.2.2 dL_of_195
  · obtain ⟨rfl, hth⟩ := h9
    refine lv_goto (tgt := 183) hx hb dL_of_93 (by decide) ?_
    have hS := nA_S (A := A) hS
    refine W.widen (k := 3) (n := 18) (Nat.le_of_ble_eq_true rfl) (Nat.le_of_ble_eq_true rfl) ?_
    exact W.iret hx hb hr (fun t ht9 hW => ⟨⟨_, (), rfl, (by show (th2 n v w = 1 → (sNeed F (gi v) (gi w)) = -701) ∧ (th2 n v w = 2 → (sNeed F (gi v) (gi w)) = -702); exact ⟨fun h9 => absurd (hth.symm.trans h9) (by decide), fun h9 => absurd (hth.symm.trans h9) (by decide)⟩), by rw [ht9]; exact hP, hD⟩, hS.F ht9⟩) hS.2.2 dL_of_183
set_option maxHeartbeats 4000000 in
set_option maxRecDepth 100000 in
theorem c_L_of_6 (l : Launch) (hfl : l.stackTraces = false) (D : va_G) (q : Nat → Nat) (F : Nat → Nat → Int32) (n : Nat) (R : Nat → Int32) (cI cZ : ClassId) (sz : Nat) (v : Int32) (w : Int32) (hw : WF F n) : Met l yL_of wsL_of ({ frames := 9, cells := 3, slots := 18, locals := 155 }) (va_Pc [.ref (q 9), .int 6, .int v, .int w] (lA D (wX q F (nI n) R cI cZ) (tIZ cI cZ) sz)) (va_Qi (fun (r : Int32) (u : Unit) => (th2 n v w = 1 → r = -701) ∧ (th2 n v w = 2 → r = -702)) (wB D (va_A (wX q F (nI n) R cI cZ) sz) (fun (u : Unit) => (wX q F (nI n) R cI cZ))) (va_A (wX q F (nI n) R cI cZ) sz)) 3 18 (va_A (wX q F (nI n) R cI cZ) sz) := by
  refine la_of (Qc := fun A => (va_Qi (fun (r : Int32) (u : Unit) => (th2 n v w = 1 → r = -701) ∧ (th2 n v w = 2 → r = -702)) (wB D A (fun (u : Unit) => (wX q F (nI n) R cI cZ))) A)) (hh := [(0, 183, 184, 70), (0, 183, 190, 26)]) (own := RL) (cc := cL_of) (maxL := 5) (ret := (some .int)) (by decide) rfl rfl (Nat.le_of_ble_eq_true rfl) ?_
  intro p9 e9 s m9 a9 below meth c9 ls A hx hb hr hml hlocks hown hts htab htA hn9 hP hK hD hA hl
  have ht : tB s := htA.tB
  have hS : va_S nA s.heap s.heap [] := va_S.rf
  have hl : lv_has ls 5 [(0, .ref (q 9)), (1, .int 6), (2, .int v), (3, .int w)] := hl
  refine lv_iload_n hx hb dL_of_0 rfl (lv_at hl 1 rfl) ?_
  refine lv_if_ne (x := 6) (tgt := 13) hx hb dL_of_1 (by decide) (fun _ => ?_) (fun k => absurd k (by decide))
  refine lv_iload_n hx hb dL_of_13 rfl (lv_at hl 1 rfl) ?_
  refine lv_iconst (v := 1) hx hb dL_of_14 (by decide) ?_
  refine lv_icmp_ne (x := 6) (y := 1) (tgt := 27) hx hb dL_of_15 (by decide) (fun _ => ?_) (fun k => absurd k (by decide))
  refine lv_iload_n hx hb dL_of_27 rfl (lv_at hl 1 rfl) ?_
  refine lv_iconst (v := 2) hx hb dL_of_28 (by decide) ?_
  refine lv_icmp_ne (x := 6) (y := 2) (tgt := 40) hx hb dL_of_29 (by decide) (fun _ => ?_) (fun k => absurd k (by decide))
  refine lv_iload_n hx hb dL_of_40 rfl (lv_at hl 1 rfl) ?_
  refine lv_iconst (v := 3) hx hb dL_of_41 (by decide) ?_
  refine lv_icmp_ne (x := 6) (y := 3) (tgt := 61) hx hb dL_of_42 (by decide) (fun _ => ?_) (fun k => absurd k (by decide))
  refine lv_iload_n hx hb dL_of_61 rfl (lv_at hl 1 rfl) ?_
  refine lv_iconst (v := 4) hx hb dL_of_62 (by decide) ?_
  refine lv_icmp_ne (x := 6) (y := 4) (tgt := 82) hx hb dL_of_63 (by decide) (fun _ => ?_) (fun k => absurd k (by decide))
  refine lv_iload_n hx hb dL_of_82 rfl (lv_at hl 1 rfl) ?_
  refine lv_iconst (v := 5) hx hb dL_of_83 (by decide) ?_
  refine lv_icmp_ne (x := 6) (y := 5) (tgt := 96) hx hb dL_of_84 (by decide) (fun _ => ?_) (fun k => absurd k (by decide))
  refine lv_iload_n hx hb dL_of_96 rfl (lv_at hl 1 rfl) ?_
  refine lv_bipush (v := 6) hx hb dL_of_97 (by decide) ?_
  refine lv_icmp_ne (x := 6) (y := 6) (tgt := 119) hx hb dL_of_99 (by decide) (fun k => absurd (by decide) k) (fun _ => ?_)
  refine lv_aload_n hx hb dL_of_102 rfl (lv_at hl 0 rfl) ?_
  refine lv_iload_n hx hb dL_of_103 rfl (lv_at hl 2 rfl) ?_
  refine lv_iload_n hx hb dL_of_104 rfl (lv_at hl 3 rfl) ?_
  refine tx_Vi (As := [.int v, .int w]) (rest := []) ⟨hx, hb, hml, hown, hts⟩ (c_X0_areInBreach l hfl D q F n R cI cZ v w hw) (cwV 2 hts gL_of_X0_areInBreach rfl rfl rfl (by decide +kernel) ⟨Nat.le_of_ble_eq_true rfl, Nat.le_of_ble_eq_true rfl⟩) ht hK hP (hP.sub [0, 1, 2, 3, 4, 5, 6, 7, 8, 9] rfl) (va_recv hK hP (ci := 0) (q0 := 0) rfl rfl) hS rfl hl.1 rfl (Nat.le_of_ble_eq_true rfl) dL_of_105 ⟨Nat.le_of_ble_eq_true rfl, Nat.le_of_ble_eq_true rfl⟩ (fun E ce q9 H locs hE hP hS hce hcv hcl => ?_) (fun r9 H locs h9 hP hS => ?_)
  · rcases hE with ⟨rfl, hth⟩ | ⟨rfl, hth⟩
    · skip
      refine vx_catch (name := "java/lang/IndexOutOfBoundsException") hown [] ⟨0, 183, 184, 70⟩ [⟨0, 183, 190, 26⟩] htab (fun z hz => by cases hz) (by decide) (by decide) (hts (.classLink RL 70 "java/lang/IndexOutOfBoundsException") (by decide +kernel)) (bW_use ht.1 _ bw_io) hce hcv hcl ?_
      refine lv_astore (lv' := [(4, .ref q9), (0, .ref (q 9)), (1, .int 6), (2, .int v), (3, .int w)]) hx hb dL_of_184 hl (by decide) rfl (fun ls hl => ?_)
      refine lv_sipush (v := (-701)) hx hb dL_of_186 (by decide) ?_
      have hS := nA_S (A := A) hS
      refine W.widen (k := 3) (n := 18) (Nat.le_of_ble_eq_true rfl) (Nat.le_of_ble_eq_true rfl) ?_
      exact W.iret hx hb hr (fun t ht9 hW => ⟨⟨_, (), rfl, (by show (th2 n v w = 1 → (-701) = -701) ∧ (th2 n v w = 2 → (-701) = -702); exact ⟨fun _ => rfl, fun h9 => absurd (hth.symm.trans h9) (by decide)⟩), by rw [ht9]; exact hP, hD⟩, hS.F ht9⟩) hS.2.2 dL_of_189
    · skip
      refine vx_catch (name := "java/lang/IllegalArgumentException") hown [⟨0, 183, 184, 70⟩] ⟨0, 183, 190, 26⟩ [] htab (fun z hz => by rw [List.mem_singleton.mp hz]; exact Or.inr ⟨by decide, "java/lang/IndexOutOfBoundsException", hts (.classLink RL 70 "java/lang/IndexOutOfBoundsException") (by decide +kernel), hn9.2⟩) (by decide) (by decide) (hts (.classLink RL 26 "java/lang/IllegalArgumentException") (by decide +kernel)) (bW_use ht.1 _ bw_ia) hce hcv hcl ?_
      refine lv_astore (lv' := [(4, .ref q9), (0, .ref (q 9)), (1, .int 6), (2, .int v), (3, .int w)]) hx hb dL_of_190 hl (by decide) rfl (fun ls hl => ?_)
      refine lv_sipush (v := (-702)) hx hb dL_of_192 (by decide) ?_
      have hS := nA_S (A := A) hS
      refine W.widen (k := 3) (n := 18) (Nat.le_of_ble_eq_true rfl) (Nat.le_of_ble_eq_true rfl) ?_
      exact W.iret hx hb hr (fun t ht9 hW => ⟨⟨_, (), rfl, (by show (th2 n v w = 1 → (-702) = -701) ∧ (th2 n v w = 2 → (-702) = -702); exact ⟨fun h9 => absurd (hth.symm.trans h9) (by decide), fun _ => rfl⟩), by rw [ht9]; exact hP, hD⟩, hS.F ht9⟩) hS.2.2 dL_of_195
  · obtain ⟨rfl, hth⟩ := h9
    refine lv_if_eq (x := (bi (sBreach F (gi v) (F 7 (gi v)) (gi w)))) (tgt := 115) hx hb dL_of_108 (by decide) (fun c_108 => ?_) (fun c_108 => ?_)
    · have c_108 := bi_e0.mp c_108
      refine lv_iconst (v := 0) hx hb dL_of_115 (by decide) ?_
      refine lv_goto (tgt := 183) hx hb dL_of_116 (by decide) ?_
      have hS := nA_S (A := A) hS
      refine W.widen (k := 3) (n := 18) (Nat.le_of_ble_eq_true rfl) (Nat.le_of_ble_eq_true rfl) ?_
      exact W.iret hx hb hr (fun t ht9 hW => ⟨⟨_, (), rfl, (by show (th2 n v w = 1 → 0 = -701) ∧ (th2 n v w = 2 → 0 = -702); exact ⟨fun h9 => absurd (hth.symm.trans h9) (by decide), fun h9 => absurd (hth.symm.trans h9) (by decide)⟩), by rw [ht9]; exact hP, hD⟩, hS.F ht9⟩) hS.2.2 dL_of_183
    · have c_108 := bi_n0.mp c_108
      refine lv_iconst (v := 1) hx hb dL_of_111 (by decide) ?_
      refine lv_goto (tgt := 183) hx hb dL_of_112 (by decide) ?_
      have hS := nA_S (A := A) hS
      refine W.widen (k := 3) (n := 18) (Nat.le_of_ble_eq_true rfl) (Nat.le_of_ble_eq_true rfl) ?_
      exact W.iret hx hb hr (fun t ht9 hW => ⟨⟨_, (), rfl, (by show (th2 n v w = 1 → 1 = -701) ∧ (th2 n v w = 2 → 1 = -702); exact ⟨fun h9 => absurd (hth.symm.trans h9) (by decide), fun h9 => absurd (hth.symm.trans h9) (by decide)⟩), by rw [ht9]; exact hP, hD⟩, hS.F ht9⟩) hS.2.2 dL_of_183
set_option maxHeartbeats 4000000 in
set_option maxRecDepth 100000 in
theorem c_L_of_9 (l : Launch) (hfl : l.stackTraces = false) (D : va_G) (q : Nat → Nat) (F : Nat → Nat → Int32) (n : Nat) (R : Nat → Int32) (cI cZ : ClassId) (sz : Nat) (v : Int32) (x1 : Int32) (hw : WF F n) : Met l yL_of wsL_of ({ frames := 9, cells := 2, slots := 12, locals := 178 }) (va_Pc [.ref (q 9), .int 9, .int v, .int x1] (lA D (wX q F (nI n) R cI cZ) (tIZ cI cZ) sz)) (va_Qi (fun (r : Int32) (u : Unit) => (thCP n v x1 = 1 → r = -701) ∧ (thCP n v x1 = 2 → r = -702)) (wB D (va_A (wX q F (nI n) R cI cZ) sz) (fun (u : Unit) => (wX q F (nI n) R cI cZ))) (va_A (wX q F (nI n) R cI cZ) sz)) 2 12 (va_A (wX q F (nI n) R cI cZ) sz) := by
  refine la_of (Qc := fun A => (va_Qi (fun (r : Int32) (u : Unit) => (thCP n v x1 = 1 → r = -701) ∧ (thCP n v x1 = 2 → r = -702)) (wB D A (fun (u : Unit) => (wX q F (nI n) R cI cZ))) A)) (hh := [(0, 183, 184, 70), (0, 183, 190, 26)]) (own := RL) (cc := cL_of) (maxL := 5) (ret := (some .int)) (by decide) rfl rfl (Nat.le_of_ble_eq_true rfl) ?_
  intro p9 e9 s m9 a9 below meth c9 ls A hx hb hr hml hlocks hown hts htab htA hn9 hP hK hD hA hl
  have ht : tB s := htA.tB
  have hS : va_S nA s.heap s.heap [] := va_S.rf
  have hl : lv_has ls 5 [(0, .ref (q 9)), (1, .int 9), (2, .int v), (3, .int x1)] := hl
  refine lv_iload_n hx hb dL_of_0 rfl (lv_at hl 1 rfl) ?_
  refine lv_if_ne (x := 9) (tgt := 13) hx hb dL_of_1 (by decide) (fun _ => ?_) (fun k => absurd k (by decide))
  refine lv_iload_n hx hb dL_of_13 rfl (lv_at hl 1 rfl) ?_
  refine lv_iconst (v := 1) hx hb dL_of_14 (by decide) ?_
  refine lv_icmp_ne (x := 9) (y := 1) (tgt := 27) hx hb dL_of_15 (by decide) (fun _ => ?_) (fun k => absurd k (by decide))
  refine lv_iload_n hx hb dL_of_27 rfl (lv_at hl 1 rfl) ?_
  refine lv_iconst (v := 2) hx hb dL_of_28 (by decide) ?_
  refine lv_icmp_ne (x := 9) (y := 2) (tgt := 40) hx hb dL_of_29 (by decide) (fun _ => ?_) (fun k => absurd k (by decide))
  refine lv_iload_n hx hb dL_of_40 rfl (lv_at hl 1 rfl) ?_
  refine lv_iconst (v := 3) hx hb dL_of_41 (by decide) ?_
  refine lv_icmp_ne (x := 9) (y := 3) (tgt := 61) hx hb dL_of_42 (by decide) (fun _ => ?_) (fun k => absurd k (by decide))
  refine lv_iload_n hx hb dL_of_61 rfl (lv_at hl 1 rfl) ?_
  refine lv_iconst (v := 4) hx hb dL_of_62 (by decide) ?_
  refine lv_icmp_ne (x := 9) (y := 4) (tgt := 82) hx hb dL_of_63 (by decide) (fun _ => ?_) (fun k => absurd k (by decide))
  refine lv_iload_n hx hb dL_of_82 rfl (lv_at hl 1 rfl) ?_
  refine lv_iconst (v := 5) hx hb dL_of_83 (by decide) ?_
  refine lv_icmp_ne (x := 9) (y := 5) (tgt := 96) hx hb dL_of_84 (by decide) (fun _ => ?_) (fun k => absurd k (by decide))
  refine lv_iload_n hx hb dL_of_96 rfl (lv_at hl 1 rfl) ?_
  refine lv_bipush (v := 6) hx hb dL_of_97 (by decide) ?_
  refine lv_icmp_ne (x := 9) (y := 6) (tgt := 119) hx hb dL_of_99 (by decide) (fun _ => ?_) (fun k => absurd k (by decide))
  refine lv_iload_n hx hb dL_of_119 rfl (lv_at hl 1 rfl) ?_
  refine lv_bipush (v := 7) hx hb dL_of_120 (by decide) ?_
  refine lv_icmp_ne (x := 9) (y := 7) (tgt := 141) hx hb dL_of_122 (by decide) (fun _ => ?_) (fun k => absurd k (by decide))
  refine lv_iload_n hx hb dL_of_141 rfl (lv_at hl 1 rfl) ?_
  refine lv_bipush (v := 8) hx hb dL_of_142 (by decide) ?_
  refine lv_icmp_ne (x := 9) (y := 8) (tgt := 155) hx hb dL_of_144 (by decide) (fun _ => ?_) (fun k => absurd k (by decide))
  refine lv_iload_n hx hb dL_of_155 rfl (lv_at hl 1 rfl) ?_
  refine lv_bipush (v := 9) hx hb dL_of_156 (by decide) ?_
  refine lv_icmp_ne (x := 9) (y := 9) (tgt := 178) hx hb dL_of_158 (by decide) (fun k => absurd (by decide) k) (fun _ => ?_)
  refine lv_aload_n hx hb dL_of_161 rfl (lv_at hl 0 rfl) ?_
  refine lv_iload_n hx hb dL_of_162 rfl (lv_at hl 2 rfl) ?_
  refine lv_iload_n hx hb dL_of_163 rfl (lv_at hl 3 rfl) ?_
  refine tx_Vi (As := [.int v, .int x1]) (rest := []) ⟨hx, hb, hml, hown, hts⟩ (c_X0_canPut l hfl D q F n R cI cZ v x1 hw) (cwV 2 hts gL_of_X0_canPut rfl rfl rfl (by decide +kernel) ⟨Nat.le_of_ble_eq_true rfl, Nat.le_of_ble_eq_true rfl⟩) ht hK hP (hP.sub [0, 1, 2, 3, 4, 5, 6, 7, 8, 9] rfl) (va_recv hK hP (ci := 0) (q0 := 0) rfl rfl) hS rfl hl.1 rfl (Nat.le_of_ble_eq_true rfl) dL_of_164 ⟨Nat.le_of_ble_eq_true rfl, Nat.le_of_ble_eq_true rfl⟩ (fun E ce q9 H locs hE hP hS hce hcv hcl => ?_) (fun r9 H locs h9 hP hS => ?_)
  · rcases hE with ⟨rfl, hth⟩ | ⟨rfl, hth⟩
    · skip
      refine vx_catch (name := "java/lang/IndexOutOfBoundsException") hown [] ⟨0, 183, 184, 70⟩ [⟨0, 183, 190, 26⟩] htab (fun z hz => by cases hz) (by decide) (by decide) (hts (.classLink RL 70 "java/lang/IndexOutOfBoundsException") (by decide +kernel)) (bW_use ht.1 _ bw_io) hce hcv hcl ?_
      refine lv_astore (lv' := [(4, .ref q9), (0, .ref (q 9)), (1, .int 9), (2, .int v), (3, .int x1)]) hx hb dL_of_184 hl (by decide) rfl (fun ls hl => ?_)
      refine lv_sipush (v := (-701)) hx hb dL_of_186 (by decide) ?_
      have hS := nA_S (A := A) hS
      refine W.widen (k := 2) (n := 12) (Nat.le_of_ble_eq_true rfl) (Nat.le_of_ble_eq_true rfl) ?_
      exact W.iret hx hb hr (fun t ht9 hW => ⟨⟨_, (), rfl, (by show (thCP n v x1 = 1 → (-701) = -701) ∧ (thCP n v x1 = 2 → (-701) = -702); exact ⟨fun _ => rfl, fun h9 => absurd (hth.symm.trans h9) (by decide)⟩), by rw [ht9]; exact hP, hD⟩, hS.F ht9⟩) hS.2.2 dL_of_189
    · skip
      refine vx_catch (name := "java/lang/IllegalArgumentException") hown [⟨0, 183, 184, 70⟩] ⟨0, 183, 190, 26⟩ [] htab (fun z hz => by rw [List.mem_singleton.mp hz]; exact Or.inr ⟨by decide, "java/lang/IndexOutOfBoundsException", hts (.classLink RL 70 "java/lang/IndexOutOfBoundsException") (by decide +kernel), hn9.2⟩) (by decide) (by decide) (hts (.classLink RL 26 "java/lang/IllegalArgumentException") (by decide +kernel)) (bW_use ht.1 _ bw_ia) hce hcv hcl ?_
      refine lv_astore (lv' := [(4, .ref q9), (0, .ref (q 9)), (1, .int 9), (2, .int v), (3, .int x1)]) hx hb dL_of_190 hl (by decide) rfl (fun ls hl => ?_)
      refine lv_sipush (v := (-702)) hx hb dL_of_192 (by decide) ?_
      have hS := nA_S (A := A) hS
      refine W.widen (k := 2) (n := 12) (Nat.le_of_ble_eq_true rfl) (Nat.le_of_ble_eq_true rfl) ?_
      exact W.iret hx hb hr (fun t ht9 hW => ⟨⟨_, (), rfl, (by show (thCP n v x1 = 1 → (-702) = -701) ∧ (thCP n v x1 = 2 → (-702) = -702); exact ⟨fun h9 => absurd (hth.symm.trans h9) (by decide), fun _ => rfl⟩), by rw [ht9]; exact hP, hD⟩, hS.F ht9⟩) hS.2.2 dL_of_195
  · obtain ⟨rfl, hth⟩ := h9
    refine lv_if_eq (x := (bi (sClean F n (gi v) x1))) (tgt := 174) hx hb dL_of_167 (by decide) (fun c_167 => ?_) (fun c_167 => ?_)
    · have c_167 := bi_e0.mp c_167
      refine lv_iconst (v := 0) hx hb dL_of_174 (by decide) ?_
      refine lv_goto (tgt := 183) hx hb dL_of_175 (by decide) ?_
      have hS := nA_S (A := A) hS
      refine W.widen (k := 2) (n := 12) (Nat.le_of_ble_eq_true rfl) (Nat.le_of_ble_eq_true rfl) ?_
      exact W.iret hx hb hr (fun t ht9 hW => ⟨⟨_, (), rfl, (by show (thCP n v x1 = 1 → 0 = -701) ∧ (thCP n v x1 = 2 → 0 = -702); exact ⟨fun h9 => absurd (hth.symm.trans h9) (by decide), fun h9 => absurd (hth.symm.trans h9) (by decide)⟩), by rw [ht9]; exact hP, hD⟩, hS.F ht9⟩) hS.2.2 dL_of_183
    · have c_167 := bi_n0.mp c_167
      refine lv_iconst (v := 1) hx hb dL_of_170 (by decide) ?_
      refine lv_goto (tgt := 183) hx hb dL_of_171 (by decide) ?_
      have hS := nA_S (A := A) hS
      refine W.widen (k := 2) (n := 12) (Nat.le_of_ble_eq_true rfl) (Nat.le_of_ble_eq_true rfl) ?_
      exact W.iret hx hb hr (fun t ht9 hW => ⟨⟨_, (), rfl, (by show (thCP n v x1 = 1 → 1 = -701) ∧ (thCP n v x1 = 2 → 1 = -702); exact ⟨fun h9 => absurd (hth.symm.trans h9) (by decide), fun h9 => absurd (hth.symm.trans h9) (by decide)⟩), by rw [ht9]; exact hP, hD⟩, hS.F ht9⟩) hS.2.2 dL_of_183
set_option maxHeartbeats 4000000 in
set_option maxRecDepth 100000 in
theorem c_L_of_none (l : Launch) (hfl : l.stackTraces = false) (D : va_G) (q : Nat → Nat) (F : Nat → Nat → Int32) (n : Nat) (R : Nat → Int32) (cI cZ : ClassId) (sz : Nat) (k : Nat) (v : Int32) (w : Int32) (hw : WF F n) (hk : k < 11) (hv : mIn v 0 (nI n - 1) = false) : Met l yL_of wsL_of ({ frames := 9, cells := 3, slots := 18, locals := 178 }) (va_Pc [.ref (q 9), .int (nI k), .int v, .int w] (lA D (wX q F (nI n) R cI cZ) (tIZ cI cZ) sz)) (va_Qi (fun (r : Int32) (u : Unit) => r = -701) (wB D (va_A (wX q F (nI n) R cI cZ) sz) (fun (u : Unit) => (wX q F (nI n) R cI cZ))) (va_A (wX q F (nI n) R cI cZ) sz)) 3 18 (va_A (wX q F (nI n) R cI cZ) sz) := by
  refine la_of (Qc := fun A => (va_Qi (fun (r : Int32) (u : Unit) => r = -701) (wB D A (fun (u : Unit) => (wX q F (nI n) R cI cZ))) A)) (hh := [(0, 183, 184, 70), (0, 183, 190, 26)]) (own := RL) (cc := cL_of) (maxL := 5) (ret := (some .int)) (by decide) rfl rfl (Nat.le_of_ble_eq_true rfl) ?_
  intro p9 e9 s m9 a9 below meth c9 ls A hx hb hr hml hlocks hown hts htab htA hn9 hP hK hD hA hl
  have ht : tB s := htA.tB
  have hS : va_S nA s.heap s.heap [] := va_S.rf
  have hl : lv_has ls 5 [(0, .ref (q 9)), (1, .int (nI k)), (2, .int v), (3, .int w)] := hl
  refine lv_iload_n hx hb dL_of_0 rfl (lv_at hl 1 rfl) ?_
  refine lv_if_ne (x := (nI k)) (tgt := 13) hx hb dL_of_1 (by decide) (fun c_1 => ?_) (fun c_1 => ?_)
  · have c_1 := nq_ne (k := k) (n := 0) c_1 (by omega) (by omega)
    refine lv_iload_n hx hb dL_of_13 rfl (lv_at hl 1 rfl) ?_
    refine lv_iconst (v := 1) hx hb dL_of_14 (by decide) ?_
    refine lv_icmp_ne (x := (nI k)) (y := 1) (tgt := 27) hx hb dL_of_15 (by decide) (fun c_15 => ?_) (fun c_15 => ?_)
    · have c_15 := nq_ne (k := k) (n := 1) c_15 (by omega) (by omega)
      refine lv_iload_n hx hb dL_of_27 rfl (lv_at hl 1 rfl) ?_
      refine lv_iconst (v := 2) hx hb dL_of_28 (by decide) ?_
      refine lv_icmp_ne (x := (nI k)) (y := 2) (tgt := 40) hx hb dL_of_29 (by decide) (fun c_29 => ?_) (fun c_29 => ?_)
      · have c_29 := nq_ne (k := k) (n := 2) c_29 (by omega) (by omega)
        refine lv_iload_n hx hb dL_of_40 rfl (lv_at hl 1 rfl) ?_
        refine lv_iconst (v := 3) hx hb dL_of_41 (by decide) ?_
        refine lv_icmp_ne (x := (nI k)) (y := 3) (tgt := 61) hx hb dL_of_42 (by decide) (fun c_42 => ?_) (fun c_42 => ?_)
        · have c_42 := nq_ne (k := k) (n := 3) c_42 (by omega) (by omega)
          refine lv_iload_n hx hb dL_of_61 rfl (lv_at hl 1 rfl) ?_
          refine lv_iconst (v := 4) hx hb dL_of_62 (by decide) ?_
          refine lv_icmp_ne (x := (nI k)) (y := 4) (tgt := 82) hx hb dL_of_63 (by decide) (fun c_63 => ?_) (fun c_63 => ?_)
          · have c_63 := nq_ne (k := k) (n := 4) c_63 (by omega) (by omega)
            refine lv_iload_n hx hb dL_of_82 rfl (lv_at hl 1 rfl) ?_
            refine lv_iconst (v := 5) hx hb dL_of_83 (by decide) ?_
            refine lv_icmp_ne (x := (nI k)) (y := 5) (tgt := 96) hx hb dL_of_84 (by decide) (fun c_84 => ?_) (fun c_84 => ?_)
            · have c_84 := nq_ne (k := k) (n := 5) c_84 (by omega) (by omega)
              refine lv_iload_n hx hb dL_of_96 rfl (lv_at hl 1 rfl) ?_
              refine lv_bipush (v := 6) hx hb dL_of_97 (by decide) ?_
              refine lv_icmp_ne (x := (nI k)) (y := 6) (tgt := 119) hx hb dL_of_99 (by decide) (fun c_99 => ?_) (fun c_99 => ?_)
              · have c_99 := nq_ne (k := k) (n := 6) c_99 (by omega) (by omega)
                refine lv_iload_n hx hb dL_of_119 rfl (lv_at hl 1 rfl) ?_
                refine lv_bipush (v := 7) hx hb dL_of_120 (by decide) ?_
                refine lv_icmp_ne (x := (nI k)) (y := 7) (tgt := 141) hx hb dL_of_122 (by decide) (fun c_122 => ?_) (fun c_122 => ?_)
                · have c_122 := nq_ne (k := k) (n := 7) c_122 (by omega) (by omega)
                  refine lv_iload_n hx hb dL_of_141 rfl (lv_at hl 1 rfl) ?_
                  refine lv_bipush (v := 8) hx hb dL_of_142 (by decide) ?_
                  refine lv_icmp_ne (x := (nI k)) (y := 8) (tgt := 155) hx hb dL_of_144 (by decide) (fun c_144 => ?_) (fun c_144 => ?_)
                  · have c_144 := nq_ne (k := k) (n := 8) c_144 (by omega) (by omega)
                    refine lv_iload_n hx hb dL_of_155 rfl (lv_at hl 1 rfl) ?_
                    refine lv_bipush (v := 9) hx hb dL_of_156 (by decide) ?_
                    refine lv_icmp_ne (x := (nI k)) (y := 9) (tgt := 178) hx hb dL_of_158 (by decide) (fun c_158 => ?_) (fun c_158 => ?_)
                    · have c_158 := nq_ne (k := k) (n := 9) c_158 (by omega) (by omega)
                      refine lv_aload_n hx hb dL_of_178 rfl (lv_at hl 0 rfl) ?_
                      refine lv_iload_n hx hb dL_of_179 rfl (lv_at hl 2 rfl) ?_
                      refine tx_Vi (As := [.int v]) (rest := []) ⟨hx, hb, hml, hown, hts⟩ (c_X0_placeFor l hfl D q F n R cI cZ v hw) (cwV 1 hts gL_of_X0_placeFor rfl rfl rfl (by decide +kernel) ⟨Nat.le_of_ble_eq_true rfl, Nat.le_of_ble_eq_true rfl⟩) ht hK hP (hP.sub [0, 1, 2, 3, 4, 5, 6, 7, 8, 9] rfl) (va_recv hK hP (ci := 0) (q0 := 0) rfl rfl) hS rfl hl.1 rfl (Nat.le_of_ble_eq_true rfl) dL_of_180 ⟨Nat.le_of_ble_eq_true rfl, Nat.le_of_ble_eq_true rfl⟩ (fun E ce q9 H locs hE hP hS hce hcv hcl => ?_) (fun r9 H locs h9 hP hS => ?_)
                      · obtain ⟨rfl, hth⟩ := hE
                        refine vx_catch (name := "java/lang/IndexOutOfBoundsException") hown [] ⟨0, 183, 184, 70⟩ [⟨0, 183, 190, 26⟩] htab (fun z hz => by cases hz) (by decide) (by decide) (hts (.classLink RL 70 "java/lang/IndexOutOfBoundsException") (by decide +kernel)) (bW_use ht.1 _ bw_io) hce hcv hcl ?_
                        refine lv_astore (lv' := [(4, .ref q9), (0, .ref (q 9)), (1, .int (nI k)), (2, .int v), (3, .int w)]) hx hb dL_of_184 hl (by decide) rfl (fun ls hl => ?_)
                        refine lv_sipush (v := (-701)) hx hb dL_of_186 (by decide) ?_
                        have hS := nA_S (A := A) hS
                        refine W.widen (k := 3) (n := 18) (Nat.le_of_ble_eq_true rfl) (Nat.le_of_ble_eq_true rfl) ?_
                        exact W.iret hx hb hr (fun t ht9 hW => ⟨⟨_, (), rfl, (by show (-701) = -701; exact rfl), by rw [ht9]; exact hP, hD⟩, hS.F ht9⟩) hS.2.2 dL_of_189
                      · obtain ⟨hlow, hth⟩ := h9
                        exact absurd (hth.symm.trans (th1_1 hv)) (by decide)
                    · have c_158 := nq_eq (k := k) (n := 9) c_158 (by omega) (by omega)
                      refine lv_aload_n hx hb dL_of_161 rfl (lv_at hl 0 rfl) ?_
                      refine lv_iload_n hx hb dL_of_162 rfl (lv_at hl 2 rfl) ?_
                      refine lv_iload_n hx hb dL_of_163 rfl (lv_at hl 3 rfl) ?_
                      refine tx_Vi (As := [.int v, .int w]) (rest := []) ⟨hx, hb, hml, hown, hts⟩ (c_X0_canPut l hfl D q F n R cI cZ v w hw) (cwV 2 hts gL_of_X0_canPut rfl rfl rfl (by decide +kernel) ⟨Nat.le_of_ble_eq_true rfl, Nat.le_of_ble_eq_true rfl⟩) ht hK hP (hP.sub [0, 1, 2, 3, 4, 5, 6, 7, 8, 9] rfl) (va_recv hK hP (ci := 0) (q0 := 0) rfl rfl) hS rfl hl.1 rfl (Nat.le_of_ble_eq_true rfl) dL_of_164 ⟨Nat.le_of_ble_eq_true rfl, Nat.le_of_ble_eq_true rfl⟩ (fun E ce q9 H locs hE hP hS hce hcv hcl => ?_) (fun r9 H locs h9 hP hS => ?_)
                      · rcases hE with ⟨rfl, hth⟩ | ⟨rfl, hth⟩
                        · skip
                          refine vx_catch (name := "java/lang/IndexOutOfBoundsException") hown [] ⟨0, 183, 184, 70⟩ [⟨0, 183, 190, 26⟩] htab (fun z hz => by cases hz) (by decide) (by decide) (hts (.classLink RL 70 "java/lang/IndexOutOfBoundsException") (by decide +kernel)) (bW_use ht.1 _ bw_io) hce hcv hcl ?_
                          refine lv_astore (lv' := [(4, .ref q9), (0, .ref (q 9)), (1, .int (nI k)), (2, .int v), (3, .int w)]) hx hb dL_of_184 hl (by decide) rfl (fun ls hl => ?_)
                          refine lv_sipush (v := (-701)) hx hb dL_of_186 (by decide) ?_
                          have hS := nA_S (A := A) hS
                          refine W.widen (k := 3) (n := 18) (Nat.le_of_ble_eq_true rfl) (Nat.le_of_ble_eq_true rfl) ?_
                          exact W.iret hx hb hr (fun t ht9 hW => ⟨⟨_, (), rfl, (by show (-701) = -701; exact rfl), by rw [ht9]; exact hP, hD⟩, hS.F ht9⟩) hS.2.2 dL_of_189
                        · skip
                          exact absurd (hth.symm.trans (thCP_1 hv)) (by decide)
                      · obtain ⟨rfl, hth⟩ := h9
                        exact absurd (hth.symm.trans (thCP_1 hv)) (by decide)
                  · have c_144 := nq_eq (k := k) (n := 8) c_144 (by omega) (by omega)
                    refine lv_aload_n hx hb dL_of_147 rfl (lv_at hl 0 rfl) ?_
                    refine lv_iload_n hx hb dL_of_148 rfl (lv_at hl 2 rfl) ?_
                    refine tx_Vi (As := [.int v]) (rest := []) ⟨hx, hb, hml, hown, hts⟩ (c_X0_inBreachWith l hfl D q F n R cI cZ v hw) (cwV 1 hts gL_of_X0_inBreachWith rfl rfl rfl (by decide +kernel) ⟨Nat.le_of_ble_eq_true rfl, Nat.le_of_ble_eq_true rfl⟩) ht hK hP (hP.sub [0, 1, 2, 3, 4, 5, 6, 7, 8, 9] rfl) (va_recv hK hP (ci := 0) (q0 := 0) rfl rfl) hS rfl hl.1 rfl (Nat.le_of_ble_eq_true rfl) dL_of_149 ⟨Nat.le_of_ble_eq_true rfl, Nat.le_of_ble_eq_true rfl⟩ (fun E ce q9 H locs hE hP hS hce hcv hcl => ?_) (fun r9 H locs h9 hP hS => ?_)
                    · obtain ⟨rfl, hth⟩ := hE
                      refine vx_catch (name := "java/lang/IndexOutOfBoundsException") hown [] ⟨0, 183, 184, 70⟩ [⟨0, 183, 190, 26⟩] htab (fun z hz => by cases hz) (by decide) (by decide) (hts (.classLink RL 70 "java/lang/IndexOutOfBoundsException") (by decide +kernel)) (bW_use ht.1 _ bw_io) hce hcv hcl ?_
                      refine lv_astore (lv' := [(4, .ref q9), (0, .ref (q 9)), (1, .int (nI k)), (2, .int v), (3, .int w)]) hx hb dL_of_184 hl (by decide) rfl (fun ls hl => ?_)
                      refine lv_sipush (v := (-701)) hx hb dL_of_186 (by decide) ?_
                      have hS := nA_S (A := A) hS
                      refine W.widen (k := 3) (n := 18) (Nat.le_of_ble_eq_true rfl) (Nat.le_of_ble_eq_true rfl) ?_
                      exact W.iret hx hb hr (fun t ht9 hW => ⟨⟨_, (), rfl, (by show (-701) = -701; exact rfl), by rw [ht9]; exact hP, hD⟩, hS.F ht9⟩) hS.2.2 dL_of_189
                    · obtain ⟨rfl, hth⟩ := h9
                      exact absurd (hth.symm.trans (th1_1 hv)) (by decide)
                · have c_122 := nq_eq (k := k) (n := 7) c_122 (by omega) (by omega)
                  refine lv_aload_n hx hb dL_of_125 rfl (lv_at hl 0 rfl) ?_
                  refine lv_iload_n hx hb dL_of_126 rfl (lv_at hl 2 rfl) ?_
                  refine tx_Vi (As := [.int v]) (rest := []) ⟨hx, hb, hml, hown, hts⟩ (c_X0_isMisplaced l hfl D q F n R cI cZ v hw) (cwV 1 hts gL_of_X0_isMisplaced rfl rfl rfl (by decide +kernel) ⟨Nat.le_of_ble_eq_true rfl, Nat.le_of_ble_eq_true rfl⟩) ht hK hP (hP.sub [0, 1, 2, 3, 4, 5, 6, 7, 8, 9] rfl) (va_recv hK hP (ci := 0) (q0 := 0) rfl rfl) hS rfl hl.1 rfl (Nat.le_of_ble_eq_true rfl) dL_of_127 ⟨Nat.le_of_ble_eq_true rfl, Nat.le_of_ble_eq_true rfl⟩ (fun E ce q9 H locs hE hP hS hce hcv hcl => ?_) (fun r9 H locs h9 hP hS => ?_)
                  · obtain ⟨rfl, hth⟩ := hE
                    refine vx_catch (name := "java/lang/IndexOutOfBoundsException") hown [] ⟨0, 183, 184, 70⟩ [⟨0, 183, 190, 26⟩] htab (fun z hz => by cases hz) (by decide) (by decide) (hts (.classLink RL 70 "java/lang/IndexOutOfBoundsException") (by decide +kernel)) (bW_use ht.1 _ bw_io) hce hcv hcl ?_
                    refine lv_astore (lv' := [(4, .ref q9), (0, .ref (q 9)), (1, .int (nI k)), (2, .int v), (3, .int w)]) hx hb dL_of_184 hl (by decide) rfl (fun ls hl => ?_)
                    refine lv_sipush (v := (-701)) hx hb dL_of_186 (by decide) ?_
                    have hS := nA_S (A := A) hS
                    refine W.widen (k := 3) (n := 18) (Nat.le_of_ble_eq_true rfl) (Nat.le_of_ble_eq_true rfl) ?_
                    exact W.iret hx hb hr (fun t ht9 hW => ⟨⟨_, (), rfl, (by show (-701) = -701; exact rfl), by rw [ht9]; exact hP, hD⟩, hS.F ht9⟩) hS.2.2 dL_of_189
                  · obtain ⟨rfl, hth⟩ := h9
                    exact absurd (hth.symm.trans (th1_1 hv)) (by decide)
              · have c_99 := nq_eq (k := k) (n := 6) c_99 (by omega) (by omega)
                refine lv_aload_n hx hb dL_of_102 rfl (lv_at hl 0 rfl) ?_
                refine lv_iload_n hx hb dL_of_103 rfl (lv_at hl 2 rfl) ?_
                refine lv_iload_n hx hb dL_of_104 rfl (lv_at hl 3 rfl) ?_
                refine tx_Vi (As := [.int v, .int w]) (rest := []) ⟨hx, hb, hml, hown, hts⟩ (c_X0_areInBreach l hfl D q F n R cI cZ v w hw) (cwV 2 hts gL_of_X0_areInBreach rfl rfl rfl (by decide +kernel) ⟨Nat.le_of_ble_eq_true rfl, Nat.le_of_ble_eq_true rfl⟩) ht hK hP (hP.sub [0, 1, 2, 3, 4, 5, 6, 7, 8, 9] rfl) (va_recv hK hP (ci := 0) (q0 := 0) rfl rfl) hS rfl hl.1 rfl (Nat.le_of_ble_eq_true rfl) dL_of_105 ⟨Nat.le_of_ble_eq_true rfl, Nat.le_of_ble_eq_true rfl⟩ (fun E ce q9 H locs hE hP hS hce hcv hcl => ?_) (fun r9 H locs h9 hP hS => ?_)
                · rcases hE with ⟨rfl, hth⟩ | ⟨rfl, hth⟩
                  · skip
                    refine vx_catch (name := "java/lang/IndexOutOfBoundsException") hown [] ⟨0, 183, 184, 70⟩ [⟨0, 183, 190, 26⟩] htab (fun z hz => by cases hz) (by decide) (by decide) (hts (.classLink RL 70 "java/lang/IndexOutOfBoundsException") (by decide +kernel)) (bW_use ht.1 _ bw_io) hce hcv hcl ?_
                    refine lv_astore (lv' := [(4, .ref q9), (0, .ref (q 9)), (1, .int (nI k)), (2, .int v), (3, .int w)]) hx hb dL_of_184 hl (by decide) rfl (fun ls hl => ?_)
                    refine lv_sipush (v := (-701)) hx hb dL_of_186 (by decide) ?_
                    have hS := nA_S (A := A) hS
                    refine W.widen (k := 3) (n := 18) (Nat.le_of_ble_eq_true rfl) (Nat.le_of_ble_eq_true rfl) ?_
                    exact W.iret hx hb hr (fun t ht9 hW => ⟨⟨_, (), rfl, (by show (-701) = -701; exact rfl), by rw [ht9]; exact hP, hD⟩, hS.F ht9⟩) hS.2.2 dL_of_189
                  · skip
                    exact absurd (hth.symm.trans (th2_1 (Or.inl hv))) (by decide)
                · obtain ⟨rfl, hth⟩ := h9
                  exact absurd (hth.symm.trans (th2_1 (Or.inl hv))) (by decide)
            · have c_84 := nq_eq (k := k) (n := 5) c_84 (by omega) (by omega)
              refine lv_aload_n hx hb dL_of_87 rfl (lv_at hl 0 rfl) ?_
              refine lv_iload_n hx hb dL_of_88 rfl (lv_at hl 2 rfl) ?_
              refine lv_iload_n hx hb dL_of_89 rfl (lv_at hl 3 rfl) ?_
              refine tx_Vi (As := [.int v, .int w]) (rest := []) ⟨hx, hb, hml, hown, hts⟩ (c_X0_need l hfl D q F n R cI cZ v w hw) (cwV 2 hts gL_of_X0_need rfl rfl rfl (by decide +kernel) ⟨Nat.le_of_ble_eq_true rfl, Nat.le_of_ble_eq_true rfl⟩) ht hK hP (hP.sub [0, 1, 2, 3, 4, 5, 6, 7, 8, 9] rfl) (va_recv hK hP (ci := 0) (q0 := 0) rfl rfl) hS rfl hl.1 rfl (Nat.le_of_ble_eq_true rfl) dL_of_90 ⟨Nat.le_of_ble_eq_true rfl, Nat.le_of_ble_eq_true rfl⟩ (fun E ce q9 H locs hE hP hS hce hcv hcl => ?_) (fun r9 H locs h9 hP hS => ?_)
              · rcases hE with ⟨rfl, hth⟩ | ⟨rfl, hth⟩
                · skip
                  refine vx_catch (name := "java/lang/IndexOutOfBoundsException") hown [] ⟨0, 183, 184, 70⟩ [⟨0, 183, 190, 26⟩] htab (fun z hz => by cases hz) (by decide) (by decide) (hts (.classLink RL 70 "java/lang/IndexOutOfBoundsException") (by decide +kernel)) (bW_use ht.1 _ bw_io) hce hcv hcl ?_
                  refine lv_astore (lv' := [(4, .ref q9), (0, .ref (q 9)), (1, .int (nI k)), (2, .int v), (3, .int w)]) hx hb dL_of_184 hl (by decide) rfl (fun ls hl => ?_)
                  refine lv_sipush (v := (-701)) hx hb dL_of_186 (by decide) ?_
                  have hS := nA_S (A := A) hS
                  refine W.widen (k := 3) (n := 18) (Nat.le_of_ble_eq_true rfl) (Nat.le_of_ble_eq_true rfl) ?_
                  exact W.iret hx hb hr (fun t ht9 hW => ⟨⟨_, (), rfl, (by show (-701) = -701; exact rfl), by rw [ht9]; exact hP, hD⟩, hS.F ht9⟩) hS.2.2 dL_of_189
                · skip
                  exact absurd (hth.symm.trans (th2_1 (Or.inl hv))) (by decide)
              · obtain ⟨rfl, hth⟩ := h9
                exact absurd (hth.symm.trans (th2_1 (Or.inl hv))) (by decide)
          · have c_63 := nq_eq (k := k) (n := 4) c_63 (by omega) (by omega)
            refine lv_aload_n hx hb dL_of_66 rfl (lv_at hl 0 rfl) ?_
            refine lv_iload_n hx hb dL_of_67 rfl (lv_at hl 2 rfl) ?_
            refine tx_Vi (As := [.int v]) (rest := []) ⟨hx, hb, hml, hown, hts⟩ (c_X0_isExcepted l hfl D q F n R cI cZ v hw) (cwV 1 hts gL_of_X0_isExcepted rfl rfl rfl (by decide +kernel) ⟨Nat.le_of_ble_eq_true rfl, Nat.le_of_ble_eq_true rfl⟩) ht hK hP (hP.sub [0, 1, 2, 3, 4, 5, 6, 7, 8, 9] rfl) (va_recv hK hP (ci := 0) (q0 := 0) rfl rfl) hS rfl hl.1 rfl (Nat.le_of_ble_eq_true rfl) dL_of_68 ⟨Nat.le_of_ble_eq_true rfl, Nat.le_of_ble_eq_true rfl⟩ (fun E ce q9 H locs hE hP hS hce hcv hcl => ?_) (fun r9 H locs h9 hP hS => ?_)
            · obtain ⟨rfl, hth⟩ := hE
              refine vx_catch (name := "java/lang/IndexOutOfBoundsException") hown [] ⟨0, 183, 184, 70⟩ [⟨0, 183, 190, 26⟩] htab (fun z hz => by cases hz) (by decide) (by decide) (hts (.classLink RL 70 "java/lang/IndexOutOfBoundsException") (by decide +kernel)) (bW_use ht.1 _ bw_io) hce hcv hcl ?_
              refine lv_astore (lv' := [(4, .ref q9), (0, .ref (q 9)), (1, .int (nI k)), (2, .int v), (3, .int w)]) hx hb dL_of_184 hl (by decide) rfl (fun ls hl => ?_)
              refine lv_sipush (v := (-701)) hx hb dL_of_186 (by decide) ?_
              have hS := nA_S (A := A) hS
              refine W.widen (k := 3) (n := 18) (Nat.le_of_ble_eq_true rfl) (Nat.le_of_ble_eq_true rfl) ?_
              exact W.iret hx hb hr (fun t ht9 hW => ⟨⟨_, (), rfl, (by show (-701) = -701; exact rfl), by rw [ht9]; exact hP, hD⟩, hS.F ht9⟩) hS.2.2 dL_of_189
            · obtain ⟨rfl, hth⟩ := h9
              exact absurd (hth.symm.trans (th1_1 hv)) (by decide)
        · have c_42 := nq_eq (k := k) (n := 3) c_42 (by omega) (by omega)
          refine lv_aload_n hx hb dL_of_45 rfl (lv_at hl 0 rfl) ?_
          refine lv_iload_n hx hb dL_of_46 rfl (lv_at hl 2 rfl) ?_
          refine tx_Vi (As := [.int v]) (rest := []) ⟨hx, hb, hml, hown, hts⟩ (c_X0_isLimited l hfl D q F n R cI cZ v hw) (cwV 1 hts gL_of_X0_isLimited rfl rfl rfl (by decide +kernel) ⟨Nat.le_of_ble_eq_true rfl, Nat.le_of_ble_eq_true rfl⟩) ht hK hP (hP.sub [0, 1, 2, 3, 4, 5, 6, 7, 8, 9] rfl) (va_recv hK hP (ci := 0) (q0 := 0) rfl rfl) hS rfl hl.1 rfl (Nat.le_of_ble_eq_true rfl) dL_of_47 ⟨Nat.le_of_ble_eq_true rfl, Nat.le_of_ble_eq_true rfl⟩ (fun E ce q9 H locs hE hP hS hce hcv hcl => ?_) (fun r9 H locs h9 hP hS => ?_)
          · obtain ⟨rfl, hth⟩ := hE
            refine vx_catch (name := "java/lang/IndexOutOfBoundsException") hown [] ⟨0, 183, 184, 70⟩ [⟨0, 183, 190, 26⟩] htab (fun z hz => by cases hz) (by decide) (by decide) (hts (.classLink RL 70 "java/lang/IndexOutOfBoundsException") (by decide +kernel)) (bW_use ht.1 _ bw_io) hce hcv hcl ?_
            refine lv_astore (lv' := [(4, .ref q9), (0, .ref (q 9)), (1, .int (nI k)), (2, .int v), (3, .int w)]) hx hb dL_of_184 hl (by decide) rfl (fun ls hl => ?_)
            refine lv_sipush (v := (-701)) hx hb dL_of_186 (by decide) ?_
            have hS := nA_S (A := A) hS
            refine W.widen (k := 3) (n := 18) (Nat.le_of_ble_eq_true rfl) (Nat.le_of_ble_eq_true rfl) ?_
            exact W.iret hx hb hr (fun t ht9 hW => ⟨⟨_, (), rfl, (by show (-701) = -701; exact rfl), by rw [ht9]; exact hP, hD⟩, hS.F ht9⟩) hS.2.2 dL_of_189
          · obtain ⟨rfl, hth⟩ := h9
            exact absurd (hth.symm.trans (th1_1 hv)) (by decide)
      · have c_29 := nq_eq (k := k) (n := 2) c_29 (by omega) (by omega)
        refine lv_aload_n hx hb dL_of_32 rfl (lv_at hl 0 rfl) ?_
        refine lv_iload_n hx hb dL_of_33 rfl (lv_at hl 2 rfl) ?_
        refine tx_Vi (As := [.int v]) (rest := []) ⟨hx, hb, hml, hown, hts⟩ (c_X0_placeOf l hfl D q F n R cI cZ v hw) (cwV 1 hts gL_of_X0_placeOf rfl rfl rfl (by decide +kernel) ⟨Nat.le_of_ble_eq_true rfl, Nat.le_of_ble_eq_true rfl⟩) ht hK hP (hP.sub [0, 1, 2, 3, 4, 5, 6, 7, 8, 9] rfl) (va_recv hK hP (ci := 0) (q0 := 0) rfl rfl) hS rfl hl.1 rfl (Nat.le_of_ble_eq_true rfl) dL_of_34 ⟨Nat.le_of_ble_eq_true rfl, Nat.le_of_ble_eq_true rfl⟩ (fun E ce q9 H locs hE hP hS hce hcv hcl => ?_) (fun r9 H locs h9 hP hS => ?_)
        · obtain ⟨rfl, hth⟩ := hE
          refine vx_catch (name := "java/lang/IndexOutOfBoundsException") hown [] ⟨0, 183, 184, 70⟩ [⟨0, 183, 190, 26⟩] htab (fun z hz => by cases hz) (by decide) (by decide) (hts (.classLink RL 70 "java/lang/IndexOutOfBoundsException") (by decide +kernel)) (bW_use ht.1 _ bw_io) hce hcv hcl ?_
          refine lv_astore (lv' := [(4, .ref q9), (0, .ref (q 9)), (1, .int (nI k)), (2, .int v), (3, .int w)]) hx hb dL_of_184 hl (by decide) rfl (fun ls hl => ?_)
          refine lv_sipush (v := (-701)) hx hb dL_of_186 (by decide) ?_
          have hS := nA_S (A := A) hS
          refine W.widen (k := 3) (n := 18) (Nat.le_of_ble_eq_true rfl) (Nat.le_of_ble_eq_true rfl) ?_
          exact W.iret hx hb hr (fun t ht9 hW => ⟨⟨_, (), rfl, (by show (-701) = -701; exact rfl), by rw [ht9]; exact hP, hD⟩, hS.F ht9⟩) hS.2.2 dL_of_189
        · obtain ⟨rfl, hth⟩ := h9
          exact absurd (hth.symm.trans (th1_1 hv)) (by decide)
    · have c_15 := nq_eq (k := k) (n := 1) c_15 (by omega) (by omega)
      refine lv_aload_n hx hb dL_of_18 rfl (lv_at hl 0 rfl) ?_
      refine lv_iload_n hx hb dL_of_19 rfl (lv_at hl 2 rfl) ?_
      refine lv_iload_n hx hb dL_of_20 rfl (lv_at hl 3 rfl) ?_
      refine wx_V (As := [.int v, .int w]) (rest := []) (wr := []) ⟨hx, hb, hml, hown, hts⟩ (c_X0_put l hfl D q F n R cI cZ _ v w hw) (cwV 2 hts gL_of_X0_put rfl rfl rfl (by decide +kernel) ⟨Nat.le_of_ble_eq_true rfl, Nat.le_of_ble_eq_true rfl⟩) ht hK hP hD hA [0, 1, 2, 3, 4, 5, 6, 7, 8, 9] [] rfl rfl (by decide) rfl (by decide) (by decide) (va_recv hK hP (ci := 0) (q0 := 0) rfl rfl) hS rfl hl.1 rfl (Nat.le_of_ble_eq_true rfl) dL_of_21 ⟨Nat.le_of_ble_eq_true rfl, Nat.le_of_ble_eq_true rfl⟩ (fun E ce q9 H locs hE hP hS hce hcv hcl => ?_) (fun r9 u9 H locs h9 hP hD hS => ?_)
      · rcases hE with ⟨rfl, hth⟩ | ⟨rfl, hth⟩
        · skip
          refine vx_catch (name := "java/lang/IndexOutOfBoundsException") hown [] ⟨0, 183, 184, 70⟩ [⟨0, 183, 190, 26⟩] htab (fun z hz => by cases hz) (by decide) (by decide) (hts (.classLink RL 70 "java/lang/IndexOutOfBoundsException") (by decide +kernel)) (bW_use ht.1 _ bw_io) hce hcv hcl ?_
          refine lv_astore (lv' := [(4, .ref q9), (0, .ref (q 9)), (1, .int (nI k)), (2, .int v), (3, .int w)]) hx hb dL_of_184 hl (by decide) rfl (fun ls hl => ?_)
          refine lv_sipush (v := (-701)) hx hb dL_of_186 (by decide) ?_
          refine W.widen (k := 3) (n := 18) (Nat.le_of_ble_eq_true rfl) (Nat.le_of_ble_eq_true rfl) ?_
          exact W.iret hx hb hr (fun t ht9 hW => ⟨⟨_, (), rfl, (by show (-701) = -701; exact rfl), by rw [ht9]; exact hP, hD⟩, hS.F ht9⟩) hS.2.2 dL_of_189
        · skip
          exact absurd (hth.symm.trans (thP_1 hv)) (by decide)
      · obtain ⟨rfl, rfl, hth⟩ := h9
        exact absurd (hth.symm.trans (thP_1 hv)) (by decide)
  · have c_1 := nq_eq (k := k) (n := 0) c_1 (by omega) (by omega)
    refine lv_aload_n hx hb dL_of_4 rfl (lv_at hl 0 rfl) ?_
    refine lv_iload_n hx hb dL_of_5 rfl (lv_at hl 2 rfl) ?_
    refine lv_iload_n hx hb dL_of_6 rfl (lv_at hl 3 rfl) ?_
    refine wx_V (As := [.int v, .int w]) (rest := []) (wr := []) ⟨hx, hb, hml, hown, hts⟩ (c_X0_setQuantity l hfl D q F n R cI cZ _ v w hw) (cwV 2 hts gL_of_X0_setQuantity rfl rfl rfl (by decide +kernel) ⟨Nat.le_of_ble_eq_true rfl, Nat.le_of_ble_eq_true rfl⟩) ht hK hP hD hA [0, 1, 2, 3, 4, 5, 6, 7, 8, 9] [] rfl rfl (by decide) rfl (by decide) (by decide) (va_recv hK hP (ci := 0) (q0 := 0) rfl rfl) hS rfl hl.1 rfl (Nat.le_of_ble_eq_true rfl) dL_of_7 ⟨Nat.le_of_ble_eq_true rfl, Nat.le_of_ble_eq_true rfl⟩ (fun E ce q9 H locs hE hP hS hce hcv hcl => ?_) (fun r9 u9 H locs h9 hP hD hS => ?_)
    · rcases hE with ⟨rfl, hth⟩ | ⟨rfl, hth⟩
      · skip
        refine vx_catch (name := "java/lang/IndexOutOfBoundsException") hown [] ⟨0, 183, 184, 70⟩ [⟨0, 183, 190, 26⟩] htab (fun z hz => by cases hz) (by decide) (by decide) (hts (.classLink RL 70 "java/lang/IndexOutOfBoundsException") (by decide +kernel)) (bW_use ht.1 _ bw_io) hce hcv hcl ?_
        refine lv_astore (lv' := [(4, .ref q9), (0, .ref (q 9)), (1, .int (nI k)), (2, .int v), (3, .int w)]) hx hb dL_of_184 hl (by decide) rfl (fun ls hl => ?_)
        refine lv_sipush (v := (-701)) hx hb dL_of_186 (by decide) ?_
        refine W.widen (k := 3) (n := 18) (Nat.le_of_ble_eq_true rfl) (Nat.le_of_ble_eq_true rfl) ?_
        exact W.iret hx hb hr (fun t ht9 hW => ⟨⟨_, (), rfl, (by show (-701) = -701; exact rfl), by rw [ht9]; exact hP, hD⟩, hS.F ht9⟩) hS.2.2 dL_of_189
      · skip
        exact absurd (hth.symm.trans (thQ_1 hv)) (by decide)
    · obtain ⟨rfl, rfl, hth⟩ := h9
      exact absurd (hth.symm.trans (thQ_1 hv)) (by decide)

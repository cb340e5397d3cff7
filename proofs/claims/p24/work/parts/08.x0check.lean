/-! the class: its checks -/
set_option maxHeartbeats 4000000 in
set_option maxRecDepth 100000 in
theorem c_X0_checkRange (l : Launch) (hfl : l.stackTraces = false) (v : Int32) (lo : Int32) (hi : Int32) : vx_Met l yX0_checkRange wsX0_checkRange ({ frames := 6, cells := 1, slots := 6, locals := 90 }) (va_Pc [.int v, .int lo, .int hi] tB) (ROv (mIn v lo hi = true)) (XB (fun E => E = "java/lang/IllegalArgumentException" ∧ mIn v lo hi = false)) 1 6 nA := by
  refine tx_ofS (own := RX0) (cc := cX0_checkRange) (maxL := 3) (ret := none) (by decide) rfl rfl (Nat.le_of_ble_eq_true rfl) ?_
  intro p9 e9 s m9 a9 below meth c9 ls hx hb hr hml hlocks hown hts htab ht hP hl
  have hat_ia : ∀ w ∈ (vx_atS RX0 118 "java/lang/IllegalArgumentException" nmE).filter goodWord, w ∈ wsX0_checkRange := by decide +kernel
  obtain ⟨-, ⟨sa1, t1⟩, ⟨sa2, t2⟩, ⟨sa3, t3⟩, ⟨sa4, t4⟩, ⟨sa5, t5⟩, tU, tN⟩ := id ht
  have hS : va_S nA s.heap s.heap [] := va_S.rf
  have hl : lv_has ls 3 [(0, .int v), (1, .int lo), (2, .int hi)] := hl
  refine lv_iload_n hx hb dX0_checkRange_0 rfl (lv_at hl 0 rfl) ?_
  refine lv_iload_n hx hb dX0_checkRange_1 rfl (lv_at hl 1 rfl) ?_
  refine lv_icmp_lt (x := v) (y := lo) (tgt := 10) hx hb dX0_checkRange_2 (by decide) (fun c_2 => ?_) (fun c_2 => ?_)
  · skip
    exact vx_throwS hx hb hfl (own := RX0) (cls := "java/lang/IllegalArgumentException") (text := "out of range") (names := nmE) hown rfl (by decide) (hts (.classLink RX0 114 "java/lang/IllegalArgumentException") (by decide +kernel)) (hts (.initialized "java/lang/IllegalArgumentException") (by decide +kernel)) t1 (vx_hat (fun w hw => hts w (hat_ia w hw)) bad_ia (bW_use ht.1)) ot_ia tU tN hS (hl.1.trans hml.symm) dX0_checkRange_10 dX0_checkRange_13 dX0_checkRange_14 dX0_checkRange_16 dX0_checkRange_19 (fun x h => (htab x h).elim) (Nat.le_of_ble_eq_true rfl) (Nat.le_of_ble_eq_true rfl) (Nat.le_of_ble_eq_true rfl) (Nat.le_of_ble_eq_true rfl) hlocks (fun t _ h1 h2 => ⟨(), trivial, ⟨rfl, (by first | exact mIn_f1 c_2 | exact mIn_f2 c_2 c_7)⟩, xF hS h1 h2⟩) (fun z h => (hS.2.2 z h).elim) (Nat.le_of_ble_eq_true rfl) (Nat.le_of_ble_eq_true rfl)
  · skip
    refine lv_iload_n hx hb dX0_checkRange_5 rfl (lv_at hl 0 rfl) ?_
    refine lv_iload_n hx hb dX0_checkRange_6 rfl (lv_at hl 2 rfl) ?_
    refine lv_icmp_le (x := v) (y := hi) (tgt := 20) hx hb dX0_checkRange_7 (by decide) (fun c_7 => ?_) (fun c_7 => ?_)
    · skip
      refine W.widen (k := 1) (n := 6) (Nat.le_of_ble_eq_true rfl) (Nat.le_of_ble_eq_true rfl) ?_
      exact vx_ret (W.vret hx hb hr (fun t ht hW => ⟨⟨(), rfl, (mIn_t c_2 c_7), trivial⟩, hS.F ht⟩) hS.2.2 dX0_checkRange_20)
    · skip
      exact vx_throwS hx hb hfl (own := RX0) (cls := "java/lang/IllegalArgumentException") (text := "out of range") (names := nmE) hown rfl (by decide) (hts (.classLink RX0 114 "java/lang/IllegalArgumentException") (by decide +kernel)) (hts (.initialized "java/lang/IllegalArgumentException") (by decide +kernel)) t1 (vx_hat (fun w hw => hts w (hat_ia w hw)) bad_ia (bW_use ht.1)) ot_ia tU tN hS (hl.1.trans hml.symm) dX0_checkRange_10 dX0_checkRange_13 dX0_checkRange_14 dX0_checkRange_16 dX0_checkRange_19 (fun x h => (htab x h).elim) (Nat.le_of_ble_eq_true rfl) (Nat.le_of_ble_eq_true rfl) (Nat.le_of_ble_eq_true rfl) (Nat.le_of_ble_eq_true rfl) hlocks (fun t _ h1 h2 => ⟨(), trivial, ⟨rfl, (by first | exact mIn_f1 c_2 | exact mIn_f2 c_2 c_7)⟩, xF hS h1 h2⟩) (fun z h => (hS.2.2 z h).elim) (Nat.le_of_ble_eq_true rfl) (Nat.le_of_ble_eq_true rfl)
set_option maxHeartbeats 4000000 in
set_option maxRecDepth 100000 in
theorem c_X0_checkClass (l : Launch) (hfl : l.stackTraces = false) (v : Int32) : vx_Met l yX0_checkClass wsX0_checkClass ({ frames := 7, cells := 1, slots := 6, locals := 112 }) (va_Pc [.int v] tB) (ROv (mIn v 1 9 = true)) (XB (fun E => E = "java/lang/IllegalArgumentException" ∧ mIn v 1 9 = false)) 1 6 nA := by
  refine tx_ofS (own := RX0) (cc := cX0_checkClass) (maxL := 1) (ret := none) (by decide) rfl rfl (Nat.le_of_ble_eq_true rfl) ?_
  intro p9 e9 s m9 a9 below meth c9 ls hx hb hr hml hlocks hown hts htab ht hP hl
  have hS : va_S nA s.heap s.heap [] := va_S.rf
  have hl : lv_has ls 1 [(0, .int v)] := hl
  refine lv_iload_n hx hb dX0_checkClass_0 rfl (lv_at hl 0 rfl) ?_
  refine lv_iconst (v := 1) hx hb dX0_checkClass_1 (by decide) ?_
  refine lv_bipush (v := 9) hx hb dX0_checkClass_2 (by decide) ?_
  refine tx_S (As := [.int v, .int 1, .int 9]) (rest := []) ⟨hx, hb, hml, hown, hts⟩ (c_X0_checkRange l hfl v 1 9) (va_cwS 3 hts gX0_checkClass_X0_checkRange rfl rfl rfl (by decide +kernel) ⟨Nat.le_of_ble_eq_true rfl, Nat.le_of_ble_eq_true rfl⟩) ht hP hS rfl hl.1 rfl (Nat.le_of_ble_eq_true rfl) dX0_checkClass_4 ⟨Nat.le_of_ble_eq_true rfl, Nat.le_of_ble_eq_true rfl⟩ (fun E ce q9 H locs hE hP hS hce hcv hcl => tx_out htab hlocks hS hce hcv hcl (hE) (Nat.le_of_ble_eq_true rfl) (Nat.le_of_ble_eq_true rfl)) (fun H locs h_4 hP hS => ?_)
  refine W.widen (k := 1) (n := 6) (Nat.le_of_ble_eq_true rfl) (Nat.le_of_ble_eq_true rfl) ?_
  exact vx_ret (W.vret hx hb hr (fun t ht hW => ⟨⟨(), rfl, (h_4), trivial⟩, hS.F ht⟩) hS.2.2 dX0_checkClass_7)
set_option maxHeartbeats 4000000 in
set_option maxRecDepth 100000 in
theorem c_X0_checkSubsidiary (l : Launch) (hfl : l.stackTraces = false) (v : Int32) (w : Int32) : vx_Met l yX0_checkSubsidiary wsX0_checkSubsidiary ({ frames := 8, cells := 2, slots := 12, locals := 132 }) (va_Pc [.int v, .int w] tB) (ROv (mIn v 1 9 = true ∧ ¬ v = w)) (XB (fun E => E = "java/lang/IllegalArgumentException" ∧ (mIn v 1 9 = false ∨ v = w))) 2 12 nA := by
  refine tx_ofS (own := RX0) (cc := cX0_checkSubsidiary) (maxL := 2) (ret := none) (by decide) rfl rfl (Nat.le_of_ble_eq_true rfl) ?_
  intro p9 e9 s m9 a9 below meth c9 ls hx hb hr hml hlocks hown hts htab ht hP hl
  have hat_ia : ∀ w ∈ (vx_atS RX0 118 "java/lang/IllegalArgumentException" nmE).filter goodWord, w ∈ wsX0_checkSubsidiary := by decide +kernel
  obtain ⟨-, ⟨sa1, t1⟩, ⟨sa2, t2⟩, ⟨sa3, t3⟩, ⟨sa4, t4⟩, ⟨sa5, t5⟩, tU, tN⟩ := id ht
  have hS : va_S nA s.heap s.heap [] := va_S.rf
  have hl : lv_has ls 2 [(0, .int v), (1, .int w)] := hl
  refine lv_iload_n hx hb dX0_checkSubsidiary_0 rfl (lv_at hl 0 rfl) ?_
  refine tx_S (As := [.int v]) (rest := []) ⟨hx, hb, hml, hown, hts⟩ (c_X0_checkClass l hfl v) (va_cwS 1 hts gX0_checkSubsidiary_X0_checkClass rfl rfl rfl (by decide +kernel) ⟨Nat.le_of_ble_eq_true rfl, Nat.le_of_ble_eq_true rfl⟩) ht hP hS rfl hl.1 rfl (Nat.le_of_ble_eq_true rfl) dX0_checkSubsidiary_1 ⟨Nat.le_of_ble_eq_true rfl, Nat.le_of_ble_eq_true rfl⟩ (fun E ce q9 H locs hE hP hS hce hcv hcl => tx_out htab hlocks hS hce hcv hcl (⟨hE.1, Or.inl hE.2⟩) (Nat.le_of_ble_eq_true rfl) (Nat.le_of_ble_eq_true rfl)) (fun H locs h_1 hP hS => ?_)
  refine lv_iload_n hx hb dX0_checkSubsidiary_4 rfl (lv_at hl 0 rfl) ?_
  refine lv_iload_n hx hb dX0_checkSubsidiary_5 rfl (lv_at hl 1 rfl) ?_
  refine lv_icmp_ne (x := v) (y := w) (tgt := 19) hx hb dX0_checkSubsidiary_6 (by decide) (fun c_6 => ?_) (fun c_6 => ?_)
  · skip
    refine W.widen (k := 2) (n := 12) (Nat.le_of_ble_eq_true rfl) (Nat.le_of_ble_eq_true rfl) ?_
    exact vx_ret (W.vret hx hb hr (fun t ht hW => ⟨⟨(), rfl, (⟨h_1, c_6⟩), trivial⟩, hS.F ht⟩) hS.2.2 dX0_checkSubsidiary_19)
  · skip
    exact vx_throwS hx hb hfl (own := RX0) (cls := "java/lang/IllegalArgumentException") (text := "the subsidiary class is the class itself") (names := nmE) hown rfl (by decide) (hts (.classLink RX0 114 "java/lang/IllegalArgumentException") (by decide +kernel)) (hts (.initialized "java/lang/IllegalArgumentException") (by decide +kernel)) t3 (vx_hat (fun w hw => hts w (hat_ia w hw)) bad_ia (bW_use ht.1)) ot_ia tU tN hS (hl.1.trans hml.symm) dX0_checkSubsidiary_9 dX0_checkSubsidiary_12 dX0_checkSubsidiary_13 dX0_checkSubsidiary_15 dX0_checkSubsidiary_18 (fun x h => (htab x h).elim) (Nat.le_of_ble_eq_true rfl) (Nat.le_of_ble_eq_true rfl) (Nat.le_of_ble_eq_true rfl) (Nat.le_of_ble_eq_true rfl) hlocks (fun t _ h1 h2 => ⟨(), trivial, ⟨rfl, Or.inr c_6⟩, xF hS h1 h2⟩) (fun z h => (hS.2.2 z h).elim) (Nat.le_of_ble_eq_true rfl) (Nat.le_of_ble_eq_true rfl)
set_option maxHeartbeats 4000000 in
set_option maxRecDepth 100000 in
theorem c_X0_checkPlace (l : Launch) (hfl : l.stackTraces = false) (v : Int32) : vx_Met l yX0_checkPlace wsX0_checkPlace ({ frames := 7, cells := 1, slots := 6, locals := 112 }) (va_Pc [.int v] tB) (ROv (mIn v 0 47 = true)) (XB (fun E => E = "java/lang/IllegalArgumentException" ∧ mIn v 0 47 = false)) 1 6 nA := by
  refine tx_ofS (own := RX0) (cc := cX0_checkPlace) (maxL := 1) (ret := none) (by decide) rfl rfl (Nat.le_of_ble_eq_true rfl) ?_
  intro p9 e9 s m9 a9 below meth c9 ls hx hb hr hml hlocks hown hts htab ht hP hl
  have hS : va_S nA s.heap s.heap [] := va_S.rf
  have hl : lv_has ls 1 [(0, .int v)] := hl
  refine lv_iload_n hx hb dX0_checkPlace_0 rfl (lv_at hl 0 rfl) ?_
  refine lv_iconst (v := 0) hx hb dX0_checkPlace_1 (by decide) ?_
  refine lv_bipush (v := 47) hx hb dX0_checkPlace_2 (by decide) ?_
  refine tx_S (As := [.int v, .int 0, .int 47]) (rest := []) ⟨hx, hb, hml, hown, hts⟩ (c_X0_checkRange l hfl v 0 47) (va_cwS 3 hts gX0_checkPlace_X0_checkRange rfl rfl rfl (by decide +kernel) ⟨Nat.le_of_ble_eq_true rfl, Nat.le_of_ble_eq_true rfl⟩) ht hP hS rfl hl.1 rfl (Nat.le_of_ble_eq_true rfl) dX0_checkPlace_4 ⟨Nat.le_of_ble_eq_true rfl, Nat.le_of_ble_eq_true rfl⟩ (fun E ce q9 H locs hE hP hS hce hcv hcl => tx_out htab hlocks hS hce hcv hcl (hE) (Nat.le_of_ble_eq_true rfl) (Nat.le_of_ble_eq_true rfl)) (fun H locs h_4 hP hS => ?_)
  refine W.widen (k := 1) (n := 6) (Nat.le_of_ble_eq_true rfl) (Nat.le_of_ble_eq_true rfl) ?_
  exact vx_ret (W.vret hx hb hr (fun t ht hW => ⟨⟨(), rfl, (h_4), trivial⟩, hS.F ht⟩) hS.2.2 dX0_checkPlace_7)
set_option maxHeartbeats 4000000 in
set_option maxRecDepth 100000 in
theorem c_X0_checkQuantity (l : Launch) (hfl : l.stackTraces = false) (v : Int32) : vx_Met l yX0_checkQuantity wsX0_checkQuantity ({ frames := 7, cells := 1, slots := 6, locals := 112 }) (va_Pc [.int v] tB) (ROv (mIn v 1 10000 = true)) (XB (fun E => E = "java/lang/IllegalArgumentException" ∧ mIn v 1 10000 = false)) 1 6 nA := by
  refine tx_ofS (own := RX0) (cc := cX0_checkQuantity) (maxL := 1) (ret := none) (by decide) rfl rfl (Nat.le_of_ble_eq_true rfl) ?_
  intro p9 e9 s m9 a9 below meth c9 ls hx hb hr hml hlocks hown hts htab ht hP hl
  have hS : va_S nA s.heap s.heap [] := va_S.rf
  have hl : lv_has ls 1 [(0, .int v)] := hl
  refine lv_iload_n hx hb dX0_checkQuantity_0 rfl (lv_at hl 0 rfl) ?_
  refine lv_iconst (v := 1) hx hb dX0_checkQuantity_1 (by decide) ?_
  refine lv_sipush (v := 10000) hx hb dX0_checkQuantity_2 (by decide) ?_
  refine tx_S (As := [.int v, .int 1, .int 10000]) (rest := []) ⟨hx, hb, hml, hown, hts⟩ (c_X0_checkRange l hfl v 1 10000) (va_cwS 3 hts gX0_checkQuantity_X0_checkRange rfl rfl rfl (by decide +kernel) ⟨Nat.le_of_ble_eq_true rfl, Nat.le_of_ble_eq_true rfl⟩) ht hP hS rfl hl.1 rfl (Nat.le_of_ble_eq_true rfl) dX0_checkQuantity_5 ⟨Nat.le_of_ble_eq_true rfl, Nat.le_of_ble_eq_true rfl⟩ (fun E ce q9 H locs hE hP hS hce hcv hcl => tx_out htab hlocks hS hce hcv hcl (hE) (Nat.le_of_ble_eq_true rfl) (Nat.le_of_ble_eq_true rfl)) (fun H locs h_5 hP hS => ?_)
  refine W.widen (k := 1) (n := 6) (Nat.le_of_ble_eq_true rfl) (Nat.le_of_ble_eq_true rfl) ?_
  exact vx_ret (W.vret hx hb hr (fun t ht hW => ⟨⟨(), rfl, (h_5), trivial⟩, hS.F ht⟩) hS.2.2 dX0_checkQuantity_8)
set_option maxHeartbeats 4000000 in
set_option maxRecDepth 100000 in
theorem c_X0_checkGoods (l : Launch) (hfl : l.stackTraces = false) (D : va_G) (q : Nat → Nat) (F : Nat → Nat → Int32) (n : Nat) (R : Nat → Int32) (cI cZ : ClassId) (v : Int32) (hn : n ≤ 16) : vx_Met l yX0_checkGoods wsX0_checkGoods ({ frames := 6, cells := 1, slots := 6, locals := 90 }) (va_Pc [.ref (q 9), .int v] (tW D (wX q F (nI n) R cI cZ) (tIZ cI cZ))) (ROv (mIn v 0 (nI n - 1) = true)) (XB (fun E => E = "java/lang/IndexOutOfBoundsException" ∧ mIn v 0 (nI n - 1) = false)) 1 6 nA := by
  refine tx_of (own := RX0) (cc := cX0_checkGoods) (maxL := 2) (ret := none) (by decide) rfl rfl (Nat.le_of_ble_eq_true rfl) ?_
  intro p9 e9 s m9 a9 below meth c9 ls hx hb hr hml hlocks hown hts htab ht hP hK hl
  have hin : ∀ w ∈ wsX00, w ∈ wsX0_checkGoods := by decide +kernel
  have f35 := hts (.fieldLink RX0 35 "DangerousGoods" "count" "I") (by decide +kernel)
  have hat_io : ∀ w ∈ (vx_atS RX0 125 "java/lang/IndexOutOfBoundsException" nmE).filter goodWord, w ∈ wsX0_checkGoods := by decide +kernel
  obtain ⟨-, ⟨sa1, t1⟩, ⟨sa2, t2⟩, ⟨sa3, t3⟩, ⟨sa4, t4⟩, ⟨sa5, t5⟩, tU, tN⟩ := id ht
  have hS : va_S nA s.heap s.heap [] := va_S.rf
  have hl : lv_has ls 2 [(0, .ref (q 9)), (1, .int v)] := hl
  refine lv_iload_n hx hb dX0_checkGoods_0 rfl (lv_at hl 1 rfl) ?_
  refine lv_if_lt (x := v) (tgt := 12) hx hb dX0_checkGoods_1 (by decide) (fun c_1 => ?_) (fun c_1 => ?_)
  · skip
    exact vx_throwS hx hb hfl (own := RX0) (cls := "java/lang/IndexOutOfBoundsException") (text := "no such goods") (names := nmE) hown rfl (by decide) (hts (.classLink RX0 121 "java/lang/IndexOutOfBoundsException") (by decide +kernel)) (hts (.initialized "java/lang/IndexOutOfBoundsException") (by decide +kernel)) t4 (vx_hat (fun w hw => hts w (hat_io w hw)) bad_io (bW_use ht.1)) ot_io tU tN hS (hl.1.trans hml.symm) dX0_checkGoods_12 dX0_checkGoods_15 dX0_checkGoods_16 dX0_checkGoods_18 dX0_checkGoods_21 (fun x h => (htab x h).elim) (Nat.le_of_ble_eq_true rfl) (Nat.le_of_ble_eq_true rfl) (Nat.le_of_ble_eq_true rfl) (Nat.le_of_ble_eq_true rfl) hlocks (fun t _ h1 h2 => ⟨(), trivial, ⟨rfl, gd_f hn (by first | exact Or.inl c_1 | exact Or.inr c_9)⟩, xF hS h1 h2⟩) (fun z h => (hS.2.2 z h).elim) (Nat.le_of_ble_eq_true rfl) (Nat.le_of_ble_eq_true rfl)
  · skip
    refine lv_iload_n hx hb dX0_checkGoods_4 rfl (lv_at hl 1 rfl) ?_
    refine lv_aload_n hx hb dX0_checkGoods_5 rfl (lv_at hl 0 rfl) ?_
    refine va_get (D := D) (ci := 0) (v := .int (nI n)) hx hb hts hin hown hK hP 0 rfl rfl 8 (by decide) f35 (fun _ h9 => h9) rfl dX0_checkGoods_6 ?_
    refine lv_icmp_lt (x := v) (y := (nI n)) (tgt := 22) hx hb dX0_checkGoods_9 (by decide) (fun c_9 => ?_) (fun c_9 => ?_)
    · skip
      refine W.widen (k := 1) (n := 6) (Nat.le_of_ble_eq_true rfl) (Nat.le_of_ble_eq_true rfl) ?_
      exact vx_ret (W.vret hx hb hr (fun t ht hW => ⟨⟨(), rfl, (gd_t hn c_1 c_9), trivial⟩, hS.F ht⟩) hS.2.2 dX0_checkGoods_22)
    · skip
      exact vx_throwS hx hb hfl (own := RX0) (cls := "java/lang/IndexOutOfBoundsException") (text := "no such goods") (names := nmE) hown rfl (by decide) (hts (.classLink RX0 121 "java/lang/IndexOutOfBoundsException") (by decide +kernel)) (hts (.initialized "java/lang/IndexOutOfBoundsException") (by decide +kernel)) t4 (vx_hat (fun w hw => hts w (hat_io w hw)) bad_io (bW_use ht.1)) ot_io tU tN hS (hl.1.trans hml.symm) dX0_checkGoods_12 dX0_checkGoods_15 dX0_checkGoods_16 dX0_checkGoods_18 dX0_checkGoods_21 (fun x h => (htab x h).elim) (Nat.le_of_ble_eq_true rfl) (Nat.le_of_ble_eq_true rfl) (Nat.le_of_ble_eq_true rfl) (Nat.le_of_ble_eq_true rfl) hlocks (fun t _ h1 h2 => ⟨(), trivial, ⟨rfl, gd_f hn (by first | exact Or.inl c_1 | exact Or.inr c_9)⟩, xF hS h1 h2⟩) (fun z h => (hS.2.2 z h).elim) (Nat.le_of_ble_eq_true rfl) (Nat.le_of_ble_eq_true rfl)
set_option maxHeartbeats 4000000 in
set_option maxRecDepth 100000 in
theorem c_X0_checkPair (l : Launch) (hfl : l.stackTraces = false) (D : va_G) (q : Nat → Nat) (F : Nat → Nat → Int32) (n : Nat) (R : Nat → Int32) (cI cZ : ClassId) (v : Int32) (w : Int32) (hn : n ≤ 16) : vx_Met l yX0_checkPair wsX0_checkPair ({ frames := 7, cells := 3, slots := 18, locals := 111 }) (va_Pc [.ref (q 9), .int v, .int w] (tW D (wX q F (nI n) R cI cZ) (tIZ cI cZ))) (ROv (mIn v 0 (nI n - 1) = true ∧ mIn w 0 (nI n - 1) = true ∧ ¬ v = w)) (XB (fun E => (E = "java/lang/IndexOutOfBoundsException" ∧ (mIn v 0 (nI n - 1) = false ∨ mIn w 0 (nI n - 1) = false)) ∨ (E = "java/lang/IllegalArgumentException" ∧ mIn v 0 (nI n - 1) = true ∧ mIn w 0 (nI n - 1) = true ∧ v = w))) 3 18 nA := by
  refine tx_of (own := RX0) (cc := cX0_checkPair) (maxL := 3) (ret := none) (by decide) rfl rfl (Nat.le_of_ble_eq_true rfl) ?_
  intro p9 e9 s m9 a9 below meth c9 ls hx hb hr hml hlocks hown hts htab ht hP hK hl
  have hat_ia : ∀ w ∈ (vx_atS RX0 118 "java/lang/IllegalArgumentException" nmE).filter goodWord, w ∈ wsX0_checkPair := by decide +kernel
  obtain ⟨-, ⟨sa1, t1⟩, ⟨sa2, t2⟩, ⟨sa3, t3⟩, ⟨sa4, t4⟩, ⟨sa5, t5⟩, tU, tN⟩ := id ht
  have hS : va_S nA s.heap s.heap [] := va_S.rf
  have hl : lv_has ls 3 [(0, .ref (q 9)), (1, .int v), (2, .int w)] := hl
  refine lv_aload_n hx hb dX0_checkPair_0 rfl (lv_at hl 0 rfl) ?_
  refine lv_iload_n hx hb dX0_checkPair_1 rfl (lv_at hl 1 rfl) ?_
  refine tx_V (As := [.int v]) (rest := []) ⟨hx, hb, hml, hown, hts⟩ (c_X0_checkGoods l hfl D q F n R cI cZ v hn) (cwV 1 hts gX0_checkPair_X0_checkGoods rfl rfl rfl (by decide +kernel) ⟨Nat.le_of_ble_eq_true rfl, Nat.le_of_ble_eq_true rfl⟩) ht hK hP hP (va_recv hK hP (ci := 0) (q0 := 0) rfl rfl) hS rfl hl.1 rfl (Nat.le_of_ble_eq_true rfl) dX0_checkPair_2 ⟨Nat.le_of_ble_eq_true rfl, Nat.le_of_ble_eq_true rfl⟩ (fun E ce q9 H locs hE hP hS hce hcv hcl => tx_out htab hlocks hS hce hcv hcl (Or.inl ⟨hE.1, Or.inl hE.2⟩) (Nat.le_of_ble_eq_true rfl) (Nat.le_of_ble_eq_true rfl)) (fun H locs h_2 hP hS => ?_)
  refine lv_aload_n hx hb dX0_checkPair_5 rfl (lv_at hl 0 rfl) ?_
  refine lv_iload_n hx hb dX0_checkPair_6 rfl (lv_at hl 2 rfl) ?_
  refine tx_V (As := [.int w]) (rest := []) ⟨hx, hb, hml, hown, hts⟩ (c_X0_checkGoods l hfl D q F n R cI cZ w hn) (cwV 1 hts gX0_checkPair_X0_checkGoods rfl rfl rfl (by decide +kernel) ⟨Nat.le_of_ble_eq_true rfl, Nat.le_of_ble_eq_true rfl⟩) ht hK hP hP (va_recv hK hP (ci := 0) (q0 := 0) rfl rfl) hS rfl hl.1 rfl (Nat.le_of_ble_eq_true rfl) dX0_checkPair_7 ⟨Nat.le_of_ble_eq_true rfl, Nat.le_of_ble_eq_true rfl⟩ (fun E ce q9 H locs hE hP hS hce hcv hcl => tx_out htab hlocks hS hce hcv hcl (Or.inl ⟨hE.1, Or.inr hE.2⟩) (Nat.le_of_ble_eq_true rfl) (Nat.le_of_ble_eq_true rfl)) (fun H locs h_7 hP hS => ?_)
  refine lv_iload_n hx hb dX0_checkPair_10 rfl (lv_at hl 1 rfl) ?_
  refine lv_iload_n hx hb dX0_checkPair_11 rfl (lv_at hl 2 rfl) ?_
  refine lv_icmp_ne (x := v) (y := w) (tgt := 25) hx hb dX0_checkPair_12 (by decide) (fun c_12 => ?_) (fun c_12 => ?_)
  · skip
    refine W.widen (k := 3) (n := 18) (Nat.le_of_ble_eq_true rfl) (Nat.le_of_ble_eq_true rfl) ?_
    exact vx_ret (W.vret hx hb hr (fun t ht hW => ⟨⟨(), rfl, (⟨h_2, h_7, c_12⟩), trivial⟩, hS.F ht⟩) hS.2.2 dX0_checkPair_25)
  · skip
    exact vx_throwS hx hb hfl (own := RX0) (cls := "java/lang/IllegalArgumentException") (text := "both are the same goods") (names := nmE) hown rfl (by decide) (hts (.classLink RX0 114 "java/lang/IllegalArgumentException") (by decide +kernel)) (hts (.initialized "java/lang/IllegalArgumentException") (by decide +kernel)) t5 (vx_hat (fun w hw => hts w (hat_ia w hw)) bad_ia (bW_use ht.1)) ot_ia tU tN hS (hl.1.trans hml.symm) dX0_checkPair_15 dX0_checkPair_18 dX0_checkPair_19 dX0_checkPair_21 dX0_checkPair_24 (fun x h => (htab x h).elim) (Nat.le_of_ble_eq_true rfl) (Nat.le_of_ble_eq_true rfl) (Nat.le_of_ble_eq_true rfl) (Nat.le_of_ble_eq_true rfl) hlocks (fun t _ h1 h2 => ⟨(), trivial, Or.inr ⟨rfl, h_2, h_7, c_12⟩, xF hS h1 h2⟩) (fun z h => (hS.2.2 z h).elim) (Nat.le_of_ble_eq_true rfl) (Nat.le_of_ble_eq_true rfl)

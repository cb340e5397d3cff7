/-! the class: its reading methods without loops -/
set_option maxHeartbeats 4000000 in
set_option maxRecDepth 100000 in
theorem c_X0_holdOf (l : Launch) (p : Int32) : Met l yX0_holdOf wsX0_holdOf ({ frames := 0, cells := 0, slots := 0, locals := 0 }) (va_Pc [.int p] (fun _ => True)) (RO (fun r => r = sHold p)) 0 0 nA := by
  refine ro_ofS (own := RX0) (cc := cX0_holdOf) (maxL := 1) (ret := (some .int)) (by decide) rfl rfl (Nat.le_of_ble_eq_true rfl) ?_
  intro p9 e9 s m9 a9 below meth c9 ls hx hb hr hml hlocks hown hts hP hl
  have hS : va_S nA s.heap s.heap [] := va_S.rf
  have hl : lv_has ls 1 [(0, .int p)] := hl
  refine lv_iload_n hx hb dX0_holdOf_0 rfl (lv_at hl 0 rfl) ?_
  refine lv_bipush (v := 12) hx hb dX0_holdOf_1 (by decide) ?_
  refine lv_idiv hx hb (x := p) (y := 12) dX0_holdOf_3 (by decide) ?_
  exact W.iret hx hb hr (fun t ht hW => ⟨⟨_, (), rfl, rfl, trivial⟩, hS.F ht⟩) hS.2.2 dX0_holdOf_4
set_option maxHeartbeats 4000000 in
set_option maxRecDepth 100000 in
theorem c_X0_bayOf (l : Launch) (p : Int32) : Met l yX0_bayOf wsX0_bayOf ({ frames := 0, cells := 0, slots := 0, locals := 0 }) (va_Pc [.int p] (fun _ => True)) (RO (fun r => r = sBay p)) 0 0 nA := by
  refine ro_ofS (own := RX0) (cc := cX0_bayOf) (maxL := 1) (ret := (some .int)) (by decide) rfl rfl (Nat.le_of_ble_eq_true rfl) ?_
  intro p9 e9 s m9 a9 below meth c9 ls hx hb hr hml hlocks hown hts hP hl
  have hS : va_S nA s.heap s.heap [] := va_S.rf
  have hl : lv_has ls 1 [(0, .int p)] := hl
  refine lv_iload_n hx hb dX0_bayOf_0 rfl (lv_at hl 0 rfl) ?_
  refine lv_bipush (v := 12) hx hb dX0_bayOf_1 (by decide) ?_
  refine lv_irem hx hb (x := p) (y := 12) dX0_bayOf_3 (by decide) ?_
  refine lv_iconst (v := 2) hx hb dX0_bayOf_4 (by decide) ?_
  refine lv_idiv hx hb (x := (p - p / 12 * 12)) (y := 2) dX0_bayOf_5 (by decide) ?_
  exact W.iret hx hb hr (fun t ht hW => ⟨⟨_, (), rfl, rfl, trivial⟩, hS.F ht⟩) hS.2.2 dX0_bayOf_6
set_option maxHeartbeats 4000000 in
set_option maxRecDepth 100000 in
theorem c_X0_deckOf (l : Launch) (p : Int32) : Met l yX0_deckOf wsX0_deckOf ({ frames := 0, cells := 0, slots := 0, locals := 0 }) (va_Pc [.int p] (fun _ => True)) (RO (fun r => r = sDeck p)) 0 0 nA := by
  refine ro_ofS (own := RX0) (cc := cX0_deckOf) (maxL := 1) (ret := (some .int)) (by decide) rfl rfl (Nat.le_of_ble_eq_true rfl) ?_
  intro p9 e9 s m9 a9 below meth c9 ls hx hb hr hml hlocks hown hts hP hl
  have hS : va_S nA s.heap s.heap [] := va_S.rf
  have hl : lv_has ls 1 [(0, .int p)] := hl
  refine lv_iload_n hx hb dX0_deckOf_0 rfl (lv_at hl 0 rfl) ?_
  refine lv_iconst (v := 2) hx hb dX0_deckOf_1 (by decide) ?_
  refine lv_irem hx hb (x := p) (y := 2) dX0_deckOf_2 (by decide) ?_
  exact W.iret hx hb hr (fun t ht hW => ⟨⟨_, (), rfl, rfl, trivial⟩, hS.F ht⟩) hS.2.2 dX0_deckOf_3
set_option maxHeartbeats 4000000 in
set_option maxRecDepth 100000 in
theorem c_X0_distanceBetween (l : Launch) (a : Int32) (b : Int32) : Met l yX0_distanceBetween wsX0_distanceBetween ({ frames := 1, cells := 0, slots := 0, locals := 40 }) (va_Pc [.int a, .int b] (fun _ => True)) (RO (fun r => r = sDist a b)) 0 0 nA := by
  refine ro_ofS (own := RX0) (cc := cX0_distanceBetween) (maxL := 4) (ret := (some .int)) (by decide) rfl rfl (Nat.le_of_ble_eq_true rfl) ?_
  intro p9 e9 s m9 a9 below meth c9 ls hx hb hr hml hlocks hown hts hP hl
  have m131_l := hts (.methodLink RX0 131 Lib.Math.abs.name) (by decide +kernel)
  have m131_s := hts (.static Lib.Math.abs.name) (by decide +kernel)
  have m131_i := hts (.initialized "java/lang/Math") (by decide +kernel)
  have m131_c := hts (.code Lib.Math.abs.name Lib.Math.abs.code 1 (some .int)) (by decide +kernel)
  have hS : va_S nA s.heap s.heap [] := va_S.rf
  have hl : lv_has ls 4 [(0, .int a), (1, .int b)] := hl
  refine lv_iload_n hx hb dX0_distanceBetween_0 rfl (lv_at hl 0 rfl) ?_
  refine ro_S (As := [.int a]) (rest := []) ⟨hx, hb, hml, hown, hts⟩ (c_X0_holdOf l a) (va_cwS 1 hts gX0_distanceBetween_X0_holdOf rfl rfl rfl (by decide +kernel) ⟨Nat.le_of_ble_eq_true rfl, Nat.le_of_ble_eq_true rfl⟩) hP hS rfl hl.1 rfl (Nat.le_of_ble_eq_true rfl) dX0_distanceBetween_1 ⟨Nat.le_of_ble_eq_true rfl, Nat.le_of_ble_eq_true rfl⟩ (fun r H locs hr9 hP hS => ?_)
  subst hr9
  refine lv_iload_n hx hb dX0_distanceBetween_4 rfl (lv_at hl 1 rfl) ?_
  refine ro_S (As := [.int b]) (rest := [.int (sHold a)]) ⟨hx, hb, hml, hown, hts⟩ (c_X0_holdOf l b) (va_cwS 1 hts gX0_distanceBetween_X0_holdOf rfl rfl rfl (by decide +kernel) ⟨Nat.le_of_ble_eq_true rfl, Nat.le_of_ble_eq_true rfl⟩) hP hS rfl hl.1 rfl (Nat.le_of_ble_eq_true rfl) dX0_distanceBetween_5 ⟨Nat.le_of_ble_eq_true rfl, Nat.le_of_ble_eq_true rfl⟩ (fun r H locs hr9 hP hS => ?_)
  subst hr9
  refine lv_isub hx hb (x := (sHold a)) (y := (sHold b)) dX0_distanceBetween_8 ?_
  refine va_mabs hx hb (hml.trans hl.1.symm) hown m131_l m131_s m131_i m131_c (Nat.le_of_ble_eq_true rfl) (Nat.le_of_ble_eq_true rfl) (Nat.zero_le _) (Nat.zero_le _) dX0_distanceBetween_9 ?_
  refine lv_istore_n (lv' := [(2, .int (iAbs ((sHold a) - (sHold b)))), (0, .int a), (1, .int b)]) hx hb dX0_distanceBetween_12 rfl hl (by decide) rfl (fun ls hl => ?_)
  refine lv_iload_n hx hb dX0_distanceBetween_13 rfl (lv_at hl 0 rfl) ?_
  refine lv_iconst (v := 2) hx hb dX0_distanceBetween_14 (by decide) ?_
  refine lv_icmp_lt (x := (iAbs ((sHold a) - (sHold b)))) (y := 2) (tgt := 20) hx hb dX0_distanceBetween_15 (by decide) (fun c_15 => ?_) (fun c_15 => ?_)
  · skip
    refine lv_iload_n hx hb dX0_distanceBetween_20 rfl (lv_at hl 0 rfl) ?_
    refine lv_iconst (v := 1) hx hb dX0_distanceBetween_21 (by decide) ?_
    refine lv_icmp_ne (x := (iAbs ((sHold a) - (sHold b)))) (y := 1) (tgt := 27) hx hb dX0_distanceBetween_22 (by decide) (fun c_22 => ?_) (fun c_22 => ?_)
    · skip
      refine lv_iload_n hx hb dX0_distanceBetween_27 rfl (lv_at hl 1 rfl) ?_
      refine ro_S (As := [.int a]) (rest := []) ⟨hx, hb, hml, hown, hts⟩ (c_X0_bayOf l a) (va_cwS 1 hts gX0_distanceBetween_X0_bayOf rfl rfl rfl (by decide +kernel) ⟨Nat.le_of_ble_eq_true rfl, Nat.le_of_ble_eq_true rfl⟩) hP hS rfl hl.1 rfl (Nat.le_of_ble_eq_true rfl) dX0_distanceBetween_28 ⟨Nat.le_of_ble_eq_true rfl, Nat.le_of_ble_eq_true rfl⟩ (fun r H locs hr9 hP hS => ?_)
      subst hr9
      refine lv_iload_n hx hb dX0_distanceBetween_31 rfl (lv_at hl 2 rfl) ?_
      refine ro_S (As := [.int b]) (rest := [.int (sBay a)]) ⟨hx, hb, hml, hown, hts⟩ (c_X0_bayOf l b) (va_cwS 1 hts gX0_distanceBetween_X0_bayOf rfl rfl rfl (by decide +kernel) ⟨Nat.le_of_ble_eq_true rfl, Nat.le_of_ble_eq_true rfl⟩) hP hS rfl hl.1 rfl (Nat.le_of_ble_eq_true rfl) dX0_distanceBetween_32 ⟨Nat.le_of_ble_eq_true rfl, Nat.le_of_ble_eq_true rfl⟩ (fun r H locs hr9 hP hS => ?_)
      subst hr9
      refine lv_isub hx hb (x := (sBay a)) (y := (sBay b)) dX0_distanceBetween_35 ?_
      refine va_mabs hx hb (hml.trans hl.1.symm) hown m131_l m131_s m131_i m131_c (Nat.le_of_ble_eq_true rfl) (Nat.le_of_ble_eq_true rfl) (Nat.zero_le _) (Nat.zero_le _) dX0_distanceBetween_36 ?_
      refine lv_istore_n (lv' := [(3, .int (iAbs ((sBay a) - (sBay b)))), (2, .int (iAbs ((sHold a) - (sHold b)))), (0, .int a), (1, .int b)]) hx hb dX0_distanceBetween_39 rfl hl (by decide) rfl (fun ls hl => ?_)
      refine lv_iload_n hx hb dX0_distanceBetween_40 rfl (lv_at hl 0 rfl) ?_
      refine lv_iconst (v := 3) hx hb dX0_distanceBetween_41 (by decide) ?_
      refine lv_icmp_ge (x := (iAbs ((sBay a) - (sBay b)))) (y := 3) (tgt := 60) hx hb dX0_distanceBetween_42 (by decide) (fun c_42 => ?_) (fun c_42 => ?_)
      · skip
        refine lv_iconst (v := 2) hx hb dX0_distanceBetween_60 (by decide) ?_
        exact W.iret hx hb hr (fun t ht hW => ⟨⟨_, (), rfl, (by show 2 = sDist a b; first | (simp only [sDist, eq_true c_15, eq_false c_22, eq_true c_42, reduceIte, Bool.false_eq_true, Bool.true_eq_false]; done) | (simp [sDist, eq_true c_15, eq_false c_22, eq_true c_42]; done)), trivial⟩, hS.F ht⟩) hS.2.2 dX0_distanceBetween_61
      · skip
        refine lv_iload_n hx hb dX0_distanceBetween_45 rfl (lv_at hl 0 rfl) ?_
        refine lv_if_le (x := (iAbs ((sBay a) - (sBay b)))) (tgt := 62) hx hb dX0_distanceBetween_46 (by decide) (fun c_46 => ?_) (fun c_46 => ?_)
        · skip
          refine lv_iload_n hx hb dX0_distanceBetween_62 rfl (lv_at hl 2 rfl) ?_
          refine lv_iload_n hx hb dX0_distanceBetween_63 rfl (lv_at hl 3 rfl) ?_
          refine lv_icmp_ne (x := a) (y := b) (tgt := 71) hx hb dX0_distanceBetween_64 (by decide) (fun c_64 => ?_) (fun c_64 => ?_)
          · skip
            refine lv_iconst (v := 1) hx hb dX0_distanceBetween_71 (by decide) ?_
            exact W.iret hx hb hr (fun t ht hW => ⟨⟨_, (), rfl, (by show 1 = sDist a b; first | (simp only [sDist, eq_true c_15, eq_false c_22, eq_false c_42, eq_true c_46, eq_false c_64, reduceIte, Bool.false_eq_true, Bool.true_eq_false]; done) | (simp [sDist, eq_true c_15, eq_false c_22, eq_false c_42, eq_true c_46, eq_false c_64]; done)), trivial⟩, hS.F ht⟩) hS.2.2 dX0_distanceBetween_72
          · skip
            refine lv_iconst (v := 0) hx hb dX0_distanceBetween_67 (by decide) ?_
            refine lv_goto (tgt := 72) hx hb dX0_distanceBetween_68 (by decide) ?_
            exact W.iret hx hb hr (fun t ht hW => ⟨⟨_, (), rfl, (by show 0 = sDist a b; first | (simp only [sDist, eq_true c_15, eq_false c_22, eq_false c_42, eq_true c_46, eq_true c_64, reduceIte, Bool.false_eq_true, Bool.true_eq_false]; done) | (simp [sDist, eq_true c_15, eq_false c_22, eq_false c_42, eq_true c_46, eq_true c_64]; done)), trivial⟩, hS.F ht⟩) hS.2.2 dX0_distanceBetween_72
        · skip
          refine lv_iload_n hx hb dX0_distanceBetween_49 rfl (lv_at hl 2 rfl) ?_
          refine ro_S (As := [.int a]) (rest := []) ⟨hx, hb, hml, hown, hts⟩ (c_X0_deckOf l a) (va_cwS 1 hts gX0_distanceBetween_X0_deckOf rfl rfl rfl (by decide +kernel) ⟨Nat.le_of_ble_eq_true rfl, Nat.le_of_ble_eq_true rfl⟩) hP hS rfl hl.1 rfl (Nat.le_of_ble_eq_true rfl) dX0_distanceBetween_50 ⟨Nat.le_of_ble_eq_true rfl, Nat.le_of_ble_eq_true rfl⟩ (fun r H locs hr9 hP hS => ?_)
          subst hr9
          refine lv_iload_n hx hb dX0_distanceBetween_53 rfl (lv_at hl 3 rfl) ?_
          refine ro_S (As := [.int b]) (rest := [.int (sDeck a)]) ⟨hx, hb, hml, hown, hts⟩ (c_X0_deckOf l b) (va_cwS 1 hts gX0_distanceBetween_X0_deckOf rfl rfl rfl (by decide +kernel) ⟨Nat.le_of_ble_eq_true rfl, Nat.le_of_ble_eq_true rfl⟩) hP hS rfl hl.1 rfl (Nat.le_of_ble_eq_true rfl) dX0_distanceBetween_54 ⟨Nat.le_of_ble_eq_true rfl, Nat.le_of_ble_eq_true rfl⟩ (fun r H locs hr9 hP hS => ?_)
          subst hr9
          refine lv_icmp_eq (x := (sDeck a)) (y := (sDeck b)) (tgt := 62) hx hb dX0_distanceBetween_57 (by decide) (fun c_57 => ?_) (fun c_57 => ?_)
          · skip
            refine lv_iload_n hx hb dX0_distanceBetween_62 rfl (lv_at hl 2 rfl) ?_
            refine lv_iload_n hx hb dX0_distanceBetween_63 rfl (lv_at hl 3 rfl) ?_
            refine lv_icmp_ne (x := a) (y := b) (tgt := 71) hx hb dX0_distanceBetween_64 (by decide) (fun c_64 => ?_) (fun c_64 => ?_)
            · skip
              refine lv_iconst (v := 1) hx hb dX0_distanceBetween_71 (by decide) ?_
              exact W.iret hx hb hr (fun t ht hW => ⟨⟨_, (), rfl, (by show 1 = sDist a b; first | (simp only [sDist, eq_true c_15, eq_false c_22, eq_false c_42, eq_false c_46, eq_true c_57, eq_false c_64, reduceIte, Bool.false_eq_true, Bool.true_eq_false]; done) | (simp [sDist, eq_true c_15, eq_false c_22, eq_false c_42, eq_false c_46, eq_true c_57, eq_false c_64]; done)), trivial⟩, hS.F ht⟩) hS.2.2 dX0_distanceBetween_72
            · skip
              refine lv_iconst (v := 0) hx hb dX0_distanceBetween_67 (by decide) ?_
              refine lv_goto (tgt := 72) hx hb dX0_distanceBetween_68 (by decide) ?_
              exact W.iret hx hb hr (fun t ht hW => ⟨⟨_, (), rfl, (by show 0 = sDist a b; first | (simp only [sDist, eq_true c_15, eq_false c_22, eq_false c_42, eq_false c_46, eq_true c_57, eq_true c_64, reduceIte, Bool.false_eq_true, Bool.true_eq_false]; done) | (simp [sDist, eq_true c_15, eq_false c_22, eq_false c_42, eq_false c_46, eq_true c_57, eq_true c_64]; done)), trivial⟩, hS.F ht⟩) hS.2.2 dX0_distanceBetween_72
          · skip
            refine lv_iconst (v := 2) hx hb dX0_distanceBetween_60 (by decide) ?_
            exact W.iret hx hb hr (fun t ht hW => ⟨⟨_, (), rfl, (by show 2 = sDist a b; first | (simp only [sDist, eq_true c_15, eq_false c_22, eq_false c_42, eq_false c_46, eq_false c_57, reduceIte, Bool.false_eq_true, Bool.true_eq_false]; done) | (simp [sDist, eq_true c_15, eq_false c_22, eq_false c_42, eq_false c_46, eq_false c_57]; done)), trivial⟩, hS.F ht⟩) hS.2.2 dX0_distanceBetween_61
    · skip
      refine lv_iconst (v := 3) hx hb dX0_distanceBetween_25 (by decide) ?_
      exact W.iret hx hb hr (fun t ht hW => ⟨⟨_, (), rfl, (by show 3 = sDist a b; first | (simp only [sDist, eq_true c_15, eq_true c_22, reduceIte, Bool.false_eq_true, Bool.true_eq_false]; done) | (simp [sDist, eq_true c_15, eq_true c_22]; done)), trivial⟩, hS.F ht⟩) hS.2.2 dX0_distanceBetween_26
  · skip
    refine lv_iconst (v := 4) hx hb dX0_distanceBetween_18 (by decide) ?_
    exact W.iret hx hb hr (fun t ht hW => ⟨⟨_, (), rfl, (by show 4 = sDist a b; first | (simp only [sDist, eq_false c_15, reduceIte, Bool.false_eq_true, Bool.true_eq_false]; done) | (simp [sDist, eq_false c_15]; done)), trivial⟩, hS.F ht⟩) hS.2.2 dX0_distanceBetween_19
set_option maxHeartbeats 4000000 in
set_option maxRecDepth 100000 in
theorem c_X0_tableDistance (l : Launch) (D : va_G) (q : Nat → Nat) (F : Nat → Nat → Int32) (n : Nat) (R : Nat → Int32) (cI cZ : ClassId) (c1 : Int32) (c2 : Int32) (h1 : okC c1) (h2 : okC c2) : Met l yX0_tableDistance wsX0_tableDistance ({ frames := 0, cells := 0, slots := 0, locals := 0 }) (va_Pc [.ref (q 9), .int c1, .int c2] (rW D (wX q F (nI n) R cI cZ) (tIZ cI cZ))) (RO (fun r => r = sTab F c1 c2)) 0 0 nA := by
  refine ro_of (own := RX0) (cc := cX0_tableDistance) (maxL := 3) (ret := (some .int)) (by decide) rfl rfl (Nat.le_of_ble_eq_true rfl) ?_
  intro p9 e9 s m9 a9 below meth c9 ls hx hb hr hml hlocks hown hts hP hK hl
  have hin : ∀ w ∈ wsX00, w ∈ wsX0_tableDistance := by decide +kernel
  have f9 := hts (.fieldLink RX0 9 "DangerousGoods" "table" "[I") (by decide +kernel)
  have hS : va_S nA s.heap s.heap [] := va_S.rf
  have hl : lv_has ls 3 [(0, .ref (q 9)), (1, .int c1), (2, .int c2)] := hl
  refine lv_iload_n hx hb dX0_tableDistance_0 rfl (lv_at hl 1 rfl) ?_
  refine lv_iconst (v := (-1)) hx hb dX0_tableDistance_1 (by decide) ?_
  refine lv_icmp_eq (x := c1) (y := (-1)) (tgt := 10) hx hb dX0_tableDistance_2 (by decide) (fun c_2 => ?_) (fun c_2 => ?_)
  · skip
    refine lv_iconst (v := 0) hx hb dX0_tableDistance_10 (by decide) ?_
    exact W.iret hx hb hr (fun t ht hW => ⟨⟨_, (), rfl, (by show 0 = sTab F c1 c2; first | (simp only [sTab, eq_true c_2, reduceIte, Bool.false_eq_true, Bool.true_eq_false]; done) | (simp [sTab, eq_true c_2]; done)), trivial⟩, hS.F ht⟩) hS.2.2 dX0_tableDistance_11
  · skip
    refine lv_iload_n hx hb dX0_tableDistance_5 rfl (lv_at hl 2 rfl) ?_
    refine lv_iconst (v := (-1)) hx hb dX0_tableDistance_6 (by decide) ?_
    refine lv_icmp_ne (x := c2) (y := (-1)) (tgt := 12) hx hb dX0_tableDistance_7 (by decide) (fun c_7 => ?_) (fun c_7 => ?_)
    · skip
      refine lv_aload_n hx hb dX0_tableDistance_12 rfl (lv_at hl 0 rfl) ?_
      refine va_get (D := D) (ci := 0) (v := .ref (q 0)) hx hb hts hin hown hK hP 0 rfl rfl 0 (by decide) f9 (fun _ h9 => h9) rfl dX0_tableDistance_13 ?_
      refine lv_iload_n hx hb dX0_tableDistance_16 rfl (lv_at hl 1 rfl) ?_
      refine lv_bipush (v := 10) hx hb dX0_tableDistance_17 (by decide) ?_
      refine lv_imul hx hb (x := c1) (y := 10) dX0_tableDistance_19 ?_
      refine lv_iload_n hx hb dX0_tableDistance_20 rfl (lv_at hl 2 rfl) ?_
      refine lv_iadd hx hb (x := (c1 * 10)) (y := c2) dX0_tableDistance_21 ?_
      refine va_iald hx hb hK hP 1 0 rfl rfl (i := ((c1 * 10) + c2)) (tab_in h1 h2 (id c_2) (id c_7)) dX0_tableDistance_22 ?_
      exact W.iret hx hb hr (fun t ht hW => ⟨⟨_, (), rfl, (by show (F 0 ((c1 * 10) + c2).toNatClampNeg) = sTab F c1 c2; first | (simp only [sTab, eq_false c_2, eq_false c_7, reduceIte, Bool.false_eq_true, Bool.true_eq_false]; done) | (simp [sTab, eq_false c_2, eq_false c_7]; done)), trivial⟩, hS.F ht⟩) hS.2.2 dX0_tableDistance_23
    · skip
      refine lv_iconst (v := 0) hx hb dX0_tableDistance_10 (by decide) ?_
      exact W.iret hx hb hr (fun t ht hW => ⟨⟨_, (), rfl, (by show 0 = sTab F c1 c2; first | (simp only [sTab, eq_false c_2, eq_true c_7, reduceIte, Bool.false_eq_true, Bool.true_eq_false]; done) | (simp [sTab, eq_false c_2, eq_true c_7]; done)), trivial⟩, hS.F ht⟩) hS.2.2 dX0_tableDistance_11
set_option maxHeartbeats 4000000 in
set_option maxRecDepth 100000 in
theorem c_X0_greatestTableDistance (l : Launch) (D : va_G) (q : Nat → Nat) (F : Nat → Nat → Int32) (n : Nat) (R : Nat → Int32) (cI cZ : ClassId) (g : Nat) (h : Nat) (hw : WF F n) (hg : g < n) (hh : h < n) : Met l yX0_greatestTableDistance wsX0_greatestTableDistance ({ frames := 1, cells := 0, slots := 0, locals := 40 }) (va_Pc [.ref (q 9), .int (nI g), .int (nI h)] (rW D (wX q F (nI n) R cI cZ) (tIZ cI cZ))) (RO (fun r => r = sGreat F g h)) 0 0 nA := by
  refine ro_of (own := RX0) (cc := cX0_greatestTableDistance) (maxL := 5) (ret := (some .int)) (by decide) rfl rfl (Nat.le_of_ble_eq_true rfl) ?_
  intro p9 e9 s m9 a9 below meth c9 ls hx hb hr hml hlocks hown hts hP hK hl
  have hin : ∀ w ∈ wsX00, w ∈ wsX0_greatestTableDistance := by decide +kernel
  have f23 := hts (.fieldLink RX0 23 "DangerousGoods" "classes" "[I") (by decide +kernel)
  have f26 := hts (.fieldLink RX0 26 "DangerousGoods" "subsidiaries" "[I") (by decide +kernel)
  have m142_l := hts (.methodLink RX0 142 Lib.Math.max.name) (by decide +kernel)
  have m142_s := hts (.static Lib.Math.max.name) (by decide +kernel)
  have m142_i := hts (.initialized "java/lang/Math") (by decide +kernel)
  have m142_c := hts (.code Lib.Math.max.name Lib.Math.max.code 2 (some .int)) (by decide +kernel)
  have hS : va_S nA s.heap s.heap [] := va_S.rf
  have hl : lv_has ls 5 [(0, .ref (q 9)), (1, .int (nI g)), (2, .int (nI h))] := hl
  refine lv_aload_n hx hb dX0_greatestTableDistance_0 rfl (lv_at hl 0 rfl) ?_
  refine lv_aload_n hx hb dX0_greatestTableDistance_1 rfl (lv_at hl 0 rfl) ?_
  refine va_get (D := D) (ci := 0) (v := .ref (q 4)) hx hb hts hin hown hK hP 0 rfl rfl 4 (by decide) f23 (fun _ h9 => h9) rfl dX0_greatestTableDistance_2 ?_
  refine lv_iload_n hx hb dX0_greatestTableDistance_5 rfl (lv_at hl 1 rfl) ?_
  refine xiald hx hb hK hP 5 0 rfl rfl (g := g) (hw.g hg) (by decide) dX0_greatestTableDistance_6 ?_
  refine lv_aload_n hx hb dX0_greatestTableDistance_7 rfl (lv_at hl 0 rfl) ?_
  refine va_get (D := D) (ci := 0) (v := .ref (q 4)) hx hb hts hin hown hK hP 0 rfl rfl 4 (by decide) f23 (fun _ h9 => h9) rfl dX0_greatestTableDistance_8 ?_
  refine lv_iload_n hx hb dX0_greatestTableDistance_11 rfl (lv_at hl 2 rfl) ?_
  refine xiald hx hb hK hP 5 0 rfl rfl (g := h) (hw.g hh) (by decide) dX0_greatestTableDistance_12 ?_
  refine ro_V (As := [.int (F 4 g), .int (F 4 h)]) (rest := []) ⟨hx, hb, hml, hown, hts⟩ (c_X0_tableDistance l D q F n R cI cZ (F 4 g) (F 4 h) (hw.c4 hg) (hw.c4 hh)) (cwV 2 hts gX0_greatestTableDistance_X0_tableDistance rfl rfl rfl (by decide +kernel) ⟨Nat.le_of_ble_eq_true rfl, Nat.le_of_ble_eq_true rfl⟩) hK hP hP (va_recv hK hP (ci := 0) (q0 := 0) rfl rfl) hS rfl hl.1 rfl (Nat.le_of_ble_eq_true rfl) dX0_greatestTableDistance_13 ⟨Nat.le_of_ble_eq_true rfl, Nat.le_of_ble_eq_true rfl⟩ (fun r H locs hr9 hP hS => ?_)
  subst hr9
  refine lv_aload_n hx hb dX0_greatestTableDistance_16 rfl (lv_at hl 0 rfl) ?_
  refine lv_aload_n hx hb dX0_greatestTableDistance_17 rfl (lv_at hl 0 rfl) ?_
  refine va_get (D := D) (ci := 0) (v := .ref (q 4)) hx hb hts hin hown hK hP 0 rfl rfl 4 (by decide) f23 (fun _ h9 => h9) rfl dX0_greatestTableDistance_18 ?_
  refine lv_iload_n hx hb dX0_greatestTableDistance_21 rfl (lv_at hl 1 rfl) ?_
  refine xiald hx hb hK hP 5 0 rfl rfl (g := g) (hw.g hg) (by decide) dX0_greatestTableDistance_22 ?_
  refine lv_aload_n hx hb dX0_greatestTableDistance_23 rfl (lv_at hl 0 rfl) ?_
  refine va_get (D := D) (ci := 0) (v := .ref (q 5)) hx hb hts hin hown hK hP 0 rfl rfl 5 (by decide) f26 (fun _ h9 => h9) rfl dX0_greatestTableDistance_24 ?_
  refine lv_iload_n hx hb dX0_greatestTableDistance_27 rfl (lv_at hl 2 rfl) ?_
  refine xiald hx hb hK hP 6 0 rfl rfl (g := h) (hw.g hh) (by decide) dX0_greatestTableDistance_28 ?_
  refine ro_V (As := [.int (F 4 g), .int (F 5 h)]) (rest := [.int (sTab F (F 4 g) (F 4 h))]) ⟨hx, hb, hml, hown, hts⟩ (c_X0_tableDistance l D q F n R cI cZ (F 4 g) (F 5 h) (hw.c4 hg) (hw.c5 hh)) (cwV 2 hts gX0_greatestTableDistance_X0_tableDistance rfl rfl rfl (by decide +kernel) ⟨Nat.le_of_ble_eq_true rfl, Nat.le_of_ble_eq_true rfl⟩) hK hP hP (va_recv hK hP (ci := 0) (q0 := 0) rfl rfl) hS rfl hl.1 rfl (Nat.le_of_ble_eq_true rfl) dX0_greatestTableDistance_29 ⟨Nat.le_of_ble_eq_true rfl, Nat.le_of_ble_eq_true rfl⟩ (fun r H locs hr9 hP hS => ?_)
  subst hr9
  refine va_mmax hx hb (hml.trans hl.1.symm) hown m142_l m142_s m142_i m142_c (Nat.le_of_ble_eq_true rfl) (Nat.le_of_ble_eq_true rfl) (Nat.zero_le _) (Nat.zero_le _) dX0_greatestTableDistance_32 ?_
  refine lv_istore_n (lv' := [(3, .int (iMax (sTab F (F 4 g) (F 4 h)) (sTab F (F 4 g) (F 5 h)))), (0, .ref (q 9)), (1, .int (nI g)), (2, .int (nI h))]) hx hb dX0_greatestTableDistance_35 rfl hl (by decide) rfl (fun ls hl => ?_)
  refine lv_aload_n hx hb dX0_greatestTableDistance_36 rfl (lv_at hl 1 rfl) ?_
  refine lv_aload_n hx hb dX0_greatestTableDistance_37 rfl (lv_at hl 1 rfl) ?_
  refine va_get (D := D) (ci := 0) (v := .ref (q 5)) hx hb hts hin hown hK hP 0 rfl rfl 5 (by decide) f26 (fun _ h9 => h9) rfl dX0_greatestTableDistance_38 ?_
  refine lv_iload_n hx hb dX0_greatestTableDistance_41 rfl (lv_at hl 2 rfl) ?_
  refine xiald hx hb hK hP 6 0 rfl rfl (g := g) (hw.g hg) (by decide) dX0_greatestTableDistance_42 ?_
  refine lv_aload_n hx hb dX0_greatestTableDistance_43 rfl (lv_at hl 1 rfl) ?_
  refine va_get (D := D) (ci := 0) (v := .ref (q 4)) hx hb hts hin hown hK hP 0 rfl rfl 4 (by decide) f23 (fun _ h9 => h9) rfl dX0_greatestTableDistance_44 ?_
  refine lv_iload_n hx hb dX0_greatestTableDistance_47 rfl (lv_at hl 3 rfl) ?_
  refine xiald hx hb hK hP 5 0 rfl rfl (g := h) (hw.g hh) (by decide) dX0_greatestTableDistance_48 ?_
  refine ro_V (As := [.int (F 5 g), .int (F 4 h)]) (rest := []) ⟨hx, hb, hml, hown, hts⟩ (c_X0_tableDistance l D q F n R cI cZ (F 5 g) (F 4 h) (hw.c5 hg) (hw.c4 hh)) (cwV 2 hts gX0_greatestTableDistance_X0_tableDistance rfl rfl rfl (by decide +kernel) ⟨Nat.le_of_ble_eq_true rfl, Nat.le_of_ble_eq_true rfl⟩) hK hP hP (va_recv hK hP (ci := 0) (q0 := 0) rfl rfl) hS rfl hl.1 rfl (Nat.le_of_ble_eq_true rfl) dX0_greatestTableDistance_49 ⟨Nat.le_of_ble_eq_true rfl, Nat.le_of_ble_eq_true rfl⟩ (fun r H locs hr9 hP hS => ?_)
  subst hr9
  refine lv_aload_n hx hb dX0_greatestTableDistance_52 rfl (lv_at hl 1 rfl) ?_
  refine lv_aload_n hx hb dX0_greatestTableDistance_53 rfl (lv_at hl 1 rfl) ?_
  refine va_get (D := D) (ci := 0) (v := .ref (q 5)) hx hb hts hin hown hK hP 0 rfl rfl 5 (by decide) f26 (fun _ h9 => h9) rfl dX0_greatestTableDistance_54 ?_
  refine lv_iload_n hx hb dX0_greatestTableDistance_57 rfl (lv_at hl 2 rfl) ?_
  refine xiald hx hb hK hP 6 0 rfl rfl (g := g) (hw.g hg) (by decide) dX0_greatestTableDistance_58 ?_
  refine lv_aload_n hx hb dX0_greatestTableDistance_59 rfl (lv_at hl 1 rfl) ?_
  refine va_get (D := D) (ci := 0) (v := .ref (q 5)) hx hb hts hin hown hK hP 0 rfl rfl 5 (by decide) f26 (fun _ h9 => h9) rfl dX0_greatestTableDistance_60 ?_
  refine lv_iload_n hx hb dX0_greatestTableDistance_63 rfl (lv_at hl 3 rfl) ?_
  refine xiald hx hb hK hP 6 0 rfl rfl (g := h) (hw.g hh) (by decide) dX0_greatestTableDistance_64 ?_
  refine ro_V (As := [.int (F 5 g), .int (F 5 h)]) (rest := [.int (sTab F (F 5 g) (F 4 h))]) ⟨hx, hb, hml, hown, hts⟩ (c_X0_tableDistance l D q F n R cI cZ (F 5 g) (F 5 h) (hw.c5 hg) (hw.c5 hh)) (cwV 2 hts gX0_greatestTableDistance_X0_tableDistance rfl rfl rfl (by decide +kernel) ⟨Nat.le_of_ble_eq_true rfl, Nat.le_of_ble_eq_true rfl⟩) hK hP hP (va_recv hK hP (ci := 0) (q0 := 0) rfl rfl) hS rfl hl.1 rfl (Nat.le_of_ble_eq_true rfl) dX0_greatestTableDistance_65 ⟨Nat.le_of_ble_eq_true rfl, Nat.le_of_ble_eq_true rfl⟩ (fun r H locs hr9 hP hS => ?_)
  subst hr9
  refine va_mmax hx hb (hml.trans hl.1.symm) hown m142_l m142_s m142_i m142_c (Nat.le_of_ble_eq_true rfl) (Nat.le_of_ble_eq_true rfl) (Nat.zero_le _) (Nat.zero_le _) dX0_greatestTableDistance_68 ?_
  refine lv_istore (lv' := [(4, .int (iMax (sTab F (F 5 g) (F 4 h)) (sTab F (F 5 g) (F 5 h)))), (3, .int (iMax (sTab F (F 4 g) (F 4 h)) (sTab F (F 4 g) (F 5 h)))), (0, .ref (q 9)), (1, .int (nI g)), (2, .int (nI h))]) hx hb dX0_greatestTableDistance_71 hl (by decide) rfl (fun ls hl => ?_)
  refine lv_iload_n hx hb dX0_greatestTableDistance_73 rfl (lv_at hl 1 rfl) ?_
  refine lv_iload hx hb dX0_greatestTableDistance_74 (lv_at hl 0 rfl) ?_
  refine va_mmax hx hb (hml.trans hl.1.symm) hown m142_l m142_s m142_i m142_c (Nat.le_of_ble_eq_true rfl) (Nat.le_of_ble_eq_true rfl) (Nat.zero_le _) (Nat.zero_le _) dX0_greatestTableDistance_76 ?_
  exact W.iret hx hb hr (fun t ht hW => ⟨⟨_, (), rfl, rfl, trivial⟩, hS.F ht⟩) hS.2.2 dX0_greatestTableDistance_79
set_option maxHeartbeats 4000000 in
set_option maxRecDepth 100000 in
theorem c_X0_areWithin_1 (l : Launch) (D : va_G) (q : Nat → Nat) (F : Nat → Nat → Int32) (n : Nat) (R : Nat → Int32) (cI cZ : ClassId) (g : Nat) (hw : WF F n) (hg : g < n) : Met l yX0_areWithin wsX0_areWithin ({ frames := 0, cells := 0, slots := 0, locals := 0 }) (va_Pc [.ref (q 9), .int (nI g), .ref (q 1)] (rW D (wX q F (nI n) R cI cZ) (tIZ cI cZ))) (RO (fun r => r = bi (sWithin F 1 g))) 0 0 nA := by
  refine ro_of (own := RX0) (cc := cX0_areWithin) (maxL := 5) (ret := (some .boolean)) (by decide) rfl rfl (Nat.le_of_ble_eq_true rfl) ?_
  intro p9 e9 s m9 a9 below meth c9 ls hx hb hr hml hlocks hown hts hP hK hl
  have hin : ∀ w ∈ wsX00, w ∈ wsX0_areWithin := by decide +kernel
  have f23 := hts (.fieldLink RX0 23 "DangerousGoods" "classes" "[I") (by decide +kernel)
  have f26 := hts (.fieldLink RX0 26 "DangerousGoods" "subsidiaries" "[I") (by decide +kernel)
  have f29 := hts (.fieldLink RX0 29 "DangerousGoods" "quantities" "[I") (by decide +kernel)
  have hS : va_S nA s.heap s.heap [] := va_S.rf
  have hl : lv_has ls 5 [(0, .ref (q 9)), (1, .int (nI g)), (2, .ref (q 1))] := hl
  refine lv_aload_n hx hb dX0_areWithin_0 rfl (lv_at hl 0 rfl) ?_
  refine va_get (D := D) (ci := 0) (v := .ref (q 6)) hx hb hts hin hown hK hP 0 rfl rfl 6 (by decide) f29 (fun _ h9 => h9) rfl dX0_areWithin_1 ?_
  refine lv_iload_n hx hb dX0_areWithin_4 rfl (lv_at hl 1 rfl) ?_
  refine xiald hx hb hK hP 7 0 rfl rfl (g := g) (hw.g hg) (by decide) dX0_areWithin_5 ?_
  refine lv_istore_n (lv' := [(3, .int (F 6 g)), (0, .ref (q 9)), (1, .int (nI g)), (2, .ref (q 1))]) hx hb dX0_areWithin_6 rfl hl (by decide) rfl (fun ls hl => ?_)
  refine lv_aload_n hx hb dX0_areWithin_7 rfl (lv_at hl 1 rfl) ?_
  refine va_get (D := D) (ci := 0) (v := .ref (q 5)) hx hb hts hin hown hK hP 0 rfl rfl 5 (by decide) f26 (fun _ h9 => h9) rfl dX0_areWithin_8 ?_
  refine lv_iload_n hx hb dX0_areWithin_11 rfl (lv_at hl 2 rfl) ?_
  refine xiald hx hb hK hP 6 0 rfl rfl (g := g) (hw.g hg) (by decide) dX0_areWithin_12 ?_
  refine lv_istore (lv' := [(4, .int (F 5 g)), (3, .int (F 6 g)), (0, .ref (q 9)), (1, .int (nI g)), (2, .ref (q 1))]) hx hb dX0_areWithin_13 hl (by decide) rfl (fun ls hl => ?_)
  refine lv_iload_n hx hb dX0_areWithin_15 rfl (lv_at hl 1 rfl) ?_
  refine lv_aload_n hx hb dX0_areWithin_16 rfl (lv_at hl 4 rfl) ?_
  refine lv_aload_n hx hb dX0_areWithin_17 rfl (lv_at hl 2 rfl) ?_
  refine va_get (D := D) (ci := 0) (v := .ref (q 4)) hx hb hts hin hown hK hP 0 rfl rfl 4 (by decide) f23 (fun _ h9 => h9) rfl dX0_areWithin_18 ?_
  refine lv_iload_n hx hb dX0_areWithin_21 rfl (lv_at hl 3 rfl) ?_
  refine xiald hx hb hK hP 5 0 rfl rfl (g := g) (hw.g hg) (by decide) dX0_areWithin_22 ?_
  refine va_iald hx hb hK hP 2 0 rfl rfl (i := (F 4 g)) ((hw.c4 hg).in (hw.c4n hg)) dX0_areWithin_23 ?_
  refine lv_icmp_gt (x := (F 6 g)) (y := (F 1 (F 4 g).toNatClampNeg)) (tgt := 45) hx hb dX0_areWithin_24 (by decide) (fun c_24 => ?_) (fun c_24 => ?_)
  · skip
    refine lv_iconst (v := 0) hx hb dX0_areWithin_45 (by decide) ?_
    exact W.zret hx hb hr zn0 (fun t ht hW => ⟨⟨_, (), rfl, (by show 0 = bi (sWithin F 1 g); first | (simp only [bi, sWithin, eq_true c_24, reduceIte, Bool.false_eq_true, Bool.true_eq_false]; done) | (simp [bi, sWithin, eq_true c_24]; done)), trivial⟩, hS.F ht⟩) hS.2.2 dX0_areWithin_46
  · skip
    refine lv_iload hx hb dX0_areWithin_27 (lv_at hl 0 rfl) ?_
    refine lv_iconst (v := (-1)) hx hb dX0_areWithin_29 (by decide) ?_
    refine lv_icmp_eq (x := (F 5 g)) (y := (-1)) (tgt := 41) hx hb dX0_areWithin_30 (by decide) (fun c_30 => ?_) (fun c_30 => ?_)
    · skip
      refine lv_iconst (v := 1) hx hb dX0_areWithin_41 (by decide) ?_
      refine lv_goto (tgt := 46) hx hb dX0_areWithin_42 (by decide) ?_
      exact W.zret hx hb hr zn1 (fun t ht hW => ⟨⟨_, (), rfl, (by show 1 = bi (sWithin F 1 g); first | (simp only [bi, sWithin, eq_false c_24, eq_true c_30, reduceIte, Bool.false_eq_true, Bool.true_eq_false]; done) | (simp [bi, sWithin, eq_false c_24, eq_true c_30]; done)), trivial⟩, hS.F ht⟩) hS.2.2 dX0_areWithin_46
    · skip
      refine lv_iload_n hx hb dX0_areWithin_33 rfl (lv_at hl 1 rfl) ?_
      refine lv_aload_n hx hb dX0_areWithin_34 rfl (lv_at hl 4 rfl) ?_
      refine lv_iload hx hb dX0_areWithin_35 (lv_at hl 0 rfl) ?_
      refine va_iald hx hb hK hP 2 0 rfl rfl (i := (F 5 g)) ((hw.c5 hg).in c_30) dX0_areWithin_37 ?_
      refine lv_icmp_gt (x := (F 6 g)) (y := (F 1 (F 5 g).toNatClampNeg)) (tgt := 45) hx hb dX0_areWithin_38 (by decide) (fun c_38 => ?_) (fun c_38 => ?_)
      · skip
        refine lv_iconst (v := 0) hx hb dX0_areWithin_45 (by decide) ?_
        exact W.zret hx hb hr zn0 (fun t ht hW => ⟨⟨_, (), rfl, (by show 0 = bi (sWithin F 1 g); first | (simp only [bi, sWithin, eq_false c_24, eq_false c_30, eq_true c_38, reduceIte, Bool.false_eq_true, Bool.true_eq_false]; done) | (simp [bi, sWithin, eq_false c_24, eq_false c_30, eq_true c_38]; done)), trivial⟩, hS.F ht⟩) hS.2.2 dX0_areWithin_46
      · skip
        refine lv_iconst (v := 1) hx hb dX0_areWithin_41 (by decide) ?_
        refine lv_goto (tgt := 46) hx hb dX0_areWithin_42 (by decide) ?_
        exact W.zret hx hb hr zn1 (fun t ht hW => ⟨⟨_, (), rfl, (by show 1 = bi (sWithin F 1 g); first | (simp only [bi, sWithin, eq_false c_24, eq_false c_30, eq_false c_38, reduceIte, Bool.false_eq_true, Bool.true_eq_false]; done) | (simp [bi, sWithin, eq_false c_24, eq_false c_30, eq_false c_38]; done)), trivial⟩, hS.F ht⟩) hS.2.2 dX0_areWithin_46
set_option maxHeartbeats 4000000 in
set_option maxRecDepth 100000 in
theorem c_X0_areWithin_2 (l : Launch) (D : va_G) (q : Nat → Nat) (F : Nat → Nat → Int32) (n : Nat) (R : Nat → Int32) (cI cZ : ClassId) (g : Nat) (hw : WF F n) (hg : g < n) : Met l yX0_areWithin wsX0_areWithin ({ frames := 0, cells := 0, slots := 0, locals := 0 }) (va_Pc [.ref (q 9), .int (nI g), .ref (q 2)] (rW D (wX q F (nI n) R cI cZ) (tIZ cI cZ))) (RO (fun r => r = bi (sWithin F 2 g))) 0 0 nA := by
  refine ro_of (own := RX0) (cc := cX0_areWithin) (maxL := 5) (ret := (some .boolean)) (by decide) rfl rfl (Nat.le_of_ble_eq_true rfl) ?_
  intro p9 e9 s m9 a9 below meth c9 ls hx hb hr hml hlocks hown hts hP hK hl
  have hin : ∀ w ∈ wsX00, w ∈ wsX0_areWithin := by decide +kernel
  have f23 := hts (.fieldLink RX0 23 "DangerousGoods" "classes" "[I") (by decide +kernel)
  have f26 := hts (.fieldLink RX0 26 "DangerousGoods" "subsidiaries" "[I") (by decide +kernel)
  have f29 := hts (.fieldLink RX0 29 "DangerousGoods" "quantities" "[I") (by decide +kernel)
  have hS : va_S nA s.heap s.heap [] := va_S.rf
  have hl : lv_has ls 5 [(0, .ref (q 9)), (1, .int (nI g)), (2, .ref (q 2))] := hl
  refine lv_aload_n hx hb dX0_areWithin_0 rfl (lv_at hl 0 rfl) ?_
  refine va_get (D := D) (ci := 0) (v := .ref (q 6)) hx hb hts hin hown hK hP 0 rfl rfl 6 (by decide) f29 (fun _ h9 => h9) rfl dX0_areWithin_1 ?_
  refine lv_iload_n hx hb dX0_areWithin_4 rfl (lv_at hl 1 rfl) ?_
  refine xiald hx hb hK hP 7 0 rfl rfl (g := g) (hw.g hg) (by decide) dX0_areWithin_5 ?_
  refine lv_istore_n (lv' := [(3, .int (F 6 g)), (0, .ref (q 9)), (1, .int (nI g)), (2, .ref (q 2))]) hx hb dX0_areWithin_6 rfl hl (by decide) rfl (fun ls hl => ?_)
  refine lv_aload_n hx hb dX0_areWithin_7 rfl (lv_at hl 1 rfl) ?_
  refine va_get (D := D) (ci := 0) (v := .ref (q 5)) hx hb hts hin hown hK hP 0 rfl rfl 5 (by decide) f26 (fun _ h9 => h9) rfl dX0_areWithin_8 ?_
  refine lv_iload_n hx hb dX0_areWithin_11 rfl (lv_at hl 2 rfl) ?_
  refine xiald hx hb hK hP 6 0 rfl rfl (g := g) (hw.g hg) (by decide) dX0_areWithin_12 ?_
  refine lv_istore (lv' := [(4, .int (F 5 g)), (3, .int (F 6 g)), (0, .ref (q 9)), (1, .int (nI g)), (2, .ref (q 2))]) hx hb dX0_areWithin_13 hl (by decide) rfl (fun ls hl => ?_)
  refine lv_iload_n hx hb dX0_areWithin_15 rfl (lv_at hl 1 rfl) ?_
  refine lv_aload_n hx hb dX0_areWithin_16 rfl (lv_at hl 4 rfl) ?_
  refine lv_aload_n hx hb dX0_areWithin_17 rfl (lv_at hl 2 rfl) ?_
  refine va_get (D := D) (ci := 0) (v := .ref (q 4)) hx hb hts hin hown hK hP 0 rfl rfl 4 (by decide) f23 (fun _ h9 => h9) rfl dX0_areWithin_18 ?_
  refine lv_iload_n hx hb dX0_areWithin_21 rfl (lv_at hl 3 rfl) ?_
  refine xiald hx hb hK hP 5 0 rfl rfl (g := g) (hw.g hg) (by decide) dX0_areWithin_22 ?_
  refine va_iald hx hb hK hP 3 0 rfl rfl (i := (F 4 g)) ((hw.c4 hg).in (hw.c4n hg)) dX0_areWithin_23 ?_
  refine lv_icmp_gt (x := (F 6 g)) (y := (F 2 (F 4 g).toNatClampNeg)) (tgt := 45) hx hb dX0_areWithin_24 (by decide) (fun c_24 => ?_) (fun c_24 => ?_)
  · skip
    refine lv_iconst (v := 0) hx hb dX0_areWithin_45 (by decide) ?_
    exact W.zret hx hb hr zn0 (fun t ht hW => ⟨⟨_, (), rfl, (by show 0 = bi (sWithin F 2 g); first | (simp only [bi, sWithin, eq_true c_24, reduceIte, Bool.false_eq_true, Bool.true_eq_false]; done) | (simp [bi, sWithin, eq_true c_24]; done)), trivial⟩, hS.F ht⟩) hS.2.2 dX0_areWithin_46
  · skip
    refine lv_iload hx hb dX0_areWithin_27 (lv_at hl 0 rfl) ?_
    refine lv_iconst (v := (-1)) hx hb dX0_areWithin_29 (by decide) ?_
    refine lv_icmp_eq (x := (F 5 g)) (y := (-1)) (tgt := 41) hx hb dX0_areWithin_30 (by decide) (fun c_30 => ?_) (fun c_30 => ?_)
    · skip
      refine lv_iconst (v := 1) hx hb dX0_areWithin_41 (by decide) ?_
      refine lv_goto (tgt := 46) hx hb dX0_areWithin_42 (by decide) ?_
      exact W.zret hx hb hr zn1 (fun t ht hW => ⟨⟨_, (), rfl, (by show 1 = bi (sWithin F 2 g); first | (simp only [bi, sWithin, eq_false c_24, eq_true c_30, reduceIte, Bool.false_eq_true, Bool.true_eq_false]; done) | (simp [bi, sWithin, eq_false c_24, eq_true c_30]; done)), trivial⟩, hS.F ht⟩) hS.2.2 dX0_areWithin_46
    · skip
      refine lv_iload_n hx hb dX0_areWithin_33 rfl (lv_at hl 1 rfl) ?_
      refine lv_aload_n hx hb dX0_areWithin_34 rfl (lv_at hl 4 rfl) ?_
      refine lv_iload hx hb dX0_areWithin_35 (lv_at hl 0 rfl) ?_
      refine va_iald hx hb hK hP 3 0 rfl rfl (i := (F 5 g)) ((hw.c5 hg).in c_30) dX0_areWithin_37 ?_
      refine lv_icmp_gt (x := (F 6 g)) (y := (F 2 (F 5 g).toNatClampNeg)) (tgt := 45) hx hb dX0_areWithin_38 (by decide) (fun c_38 => ?_) (fun c_38 => ?_)
      · skip
        refine lv_iconst (v := 0) hx hb dX0_areWithin_45 (by decide) ?_
        exact W.zret hx hb hr zn0 (fun t ht hW => ⟨⟨_, (), rfl, (by show 0 = bi (sWithin F 2 g); first | (simp only [bi, sWithin, eq_false c_24, eq_false c_30, eq_true c_38, reduceIte, Bool.false_eq_true, Bool.true_eq_false]; done) | (simp [bi, sWithin, eq_false c_24, eq_false c_30, eq_true c_38]; done)), trivial⟩, hS.F ht⟩) hS.2.2 dX0_areWithin_46
      · skip
        refine lv_iconst (v := 1) hx hb dX0_areWithin_41 (by decide) ?_
        refine lv_goto (tgt := 46) hx hb dX0_areWithin_42 (by decide) ?_
        exact W.zret hx hb hr zn1 (fun t ht hW => ⟨⟨_, (), rfl, (by show 1 = bi (sWithin F 2 g); first | (simp only [bi, sWithin, eq_false c_24, eq_false c_30, eq_false c_38, reduceIte, Bool.false_eq_true, Bool.true_eq_false]; done) | (simp [bi, sWithin, eq_false c_24, eq_false c_30, eq_false c_38]; done)), trivial⟩, hS.F ht⟩) hS.2.2 dX0_areWithin_46
set_option maxHeartbeats 4000000 in
set_option maxRecDepth 100000 in
theorem c_X0_areExcepted (l : Launch) (D : va_G) (q : Nat → Nat) (F : Nat → Nat → Int32) (n : Nat) (R : Nat → Int32) (cI cZ : ClassId) (g : Nat) (hw : WF F n) (hg : g < n) : Met l yX0_areExcepted wsX0_areExcepted ({ frames := 1, cells := 0, slots := 0, locals := 24 }) (va_Pc [.ref (q 9), .int (nI g)] (rW D (wX q F (nI n) R cI cZ) (tIZ cI cZ))) (RO (fun r => r = bi (sExc F g))) 0 0 nA := by
  refine ro_of (own := RX0) (cc := cX0_areExcepted) (maxL := 2) (ret := (some .boolean)) (by decide) rfl rfl (Nat.le_of_ble_eq_true rfl) ?_
  intro p9 e9 s m9 a9 below meth c9 ls hx hb hr hml hlocks hown hts hP hK hl
  have hin : ∀ w ∈ wsX00, w ∈ wsX0_areExcepted := by decide +kernel
  have f16 := hts (.fieldLink RX0 16 "DangerousGoods" "exceptedQuantities" "[I") (by decide +kernel)
  have hS : va_S nA s.heap s.heap [] := va_S.rf
  have hl : lv_has ls 2 [(0, .ref (q 9)), (1, .int (nI g))] := hl
  refine lv_aload_n hx hb dX0_areExcepted_0 rfl (lv_at hl 0 rfl) ?_
  refine lv_iload_n hx hb dX0_areExcepted_1 rfl (lv_at hl 1 rfl) ?_
  refine lv_aload_n hx hb dX0_areExcepted_2 rfl (lv_at hl 0 rfl) ?_
  refine va_get (D := D) (ci := 0) (v := .ref (q 2)) hx hb hts hin hown hK hP 0 rfl rfl 2 (by decide) f16 (fun _ h9 => h9) rfl dX0_areExcepted_3 ?_
  refine ro_V (As := [.int (nI g), .ref (q 2)]) (rest := []) ⟨hx, hb, hml, hown, hts⟩ (c_X0_areWithin_2 l D q F n R cI cZ g hw hg) (cwV 2 hts gX0_areExcepted_X0_areWithin rfl rfl rfl (by decide +kernel) ⟨Nat.le_of_ble_eq_true rfl, Nat.le_of_ble_eq_true rfl⟩) hK hP hP (va_recv hK hP (ci := 0) (q0 := 0) rfl rfl) hS rfl hl.1 rfl (Nat.le_of_ble_eq_true rfl) dX0_areExcepted_6 ⟨Nat.le_of_ble_eq_true rfl, Nat.le_of_ble_eq_true rfl⟩ (fun r H locs hr9 hP hS => ?_)
  subst hr9
  exact W.zret hx hb hr (bi_nar _) (fun t ht hW => ⟨⟨_, (), rfl, rfl, trivial⟩, hS.F ht⟩) hS.2.2 dX0_areExcepted_9
set_option maxHeartbeats 4000000 in
set_option maxRecDepth 100000 in
theorem c_X0_areLimited (l : Launch) (D : va_G) (q : Nat → Nat) (F : Nat → Nat → Int32) (n : Nat) (R : Nat → Int32) (cI cZ : ClassId) (g : Nat) (hw : WF F n) (hg : g < n) : Met l yX0_areLimited wsX0_areLimited ({ frames := 1, cells := 0, slots := 0, locals := 24 }) (va_Pc [.ref (q 9), .int (nI g)] (rW D (wX q F (nI n) R cI cZ) (tIZ cI cZ))) (RO (fun r => r = bi (sLim F g))) 0 0 nA := by
  refine ro_of (own := RX0) (cc := cX0_areLimited) (maxL := 2) (ret := (some .boolean)) (by decide) rfl rfl (Nat.le_of_ble_eq_true rfl) ?_
  intro p9 e9 s m9 a9 below meth c9 ls hx hb hr hml hlocks hown hts hP hK hl
  have hin : ∀ w ∈ wsX00, w ∈ wsX0_areLimited := by decide +kernel
  have f13 := hts (.fieldLink RX0 13 "DangerousGoods" "limitedQuantities" "[I") (by decide +kernel)
  have f16 := hts (.fieldLink RX0 16 "DangerousGoods" "exceptedQuantities" "[I") (by decide +kernel)
  have hS : va_S nA s.heap s.heap [] := va_S.rf
  have hl : lv_has ls 2 [(0, .ref (q 9)), (1, .int (nI g))] := hl
  refine lv_aload_n hx hb dX0_areLimited_0 rfl (lv_at hl 0 rfl) ?_
  refine lv_iload_n hx hb dX0_areLimited_1 rfl (lv_at hl 1 rfl) ?_
  refine lv_aload_n hx hb dX0_areLimited_2 rfl (lv_at hl 0 rfl) ?_
  refine va_get (D := D) (ci := 0) (v := .ref (q 2)) hx hb hts hin hown hK hP 0 rfl rfl 2 (by decide) f16 (fun _ h9 => h9) rfl dX0_areLimited_3 ?_
  refine ro_V (As := [.int (nI g), .ref (q 2)]) (rest := []) ⟨hx, hb, hml, hown, hts⟩ (c_X0_areWithin_2 l D q F n R cI cZ g hw hg) (cwV 2 hts gX0_areLimited_X0_areWithin rfl rfl rfl (by decide +kernel) ⟨Nat.le_of_ble_eq_true rfl, Nat.le_of_ble_eq_true rfl⟩) hK hP hP (va_recv hK hP (ci := 0) (q0 := 0) rfl rfl) hS rfl hl.1 rfl (Nat.le_of_ble_eq_true rfl) dX0_areLimited_6 ⟨Nat.le_of_ble_eq_true rfl, Nat.le_of_ble_eq_true rfl⟩ (fun r H locs hr9 hP hS => ?_)
  subst hr9
  refine lv_if_ne (x := (bi (sWithin F 2 g))) (tgt := 28) hx hb dX0_areLimited_9 (by decide) (fun c_9 => ?_) (fun c_9 => ?_)
  · have c_9 := bi_n0.mp c_9
    refine lv_iconst (v := 0) hx hb dX0_areLimited_28 (by decide) ?_
    exact W.zret hx hb hr zn0 (fun t ht hW => ⟨⟨_, (), rfl, (by show 0 = bi (sLim F g); first | (simp only [bi, sLim, c_9, reduceIte, Bool.false_eq_true, Bool.true_eq_false]; done) | (simp [bi, sLim, c_9]; done)), trivial⟩, hS.F ht⟩) hS.2.2 dX0_areLimited_29
  · have c_9 := bi_e0.mp c_9
    refine lv_aload_n hx hb dX0_areLimited_12 rfl (lv_at hl 0 rfl) ?_
    refine lv_iload_n hx hb dX0_areLimited_13 rfl (lv_at hl 1 rfl) ?_
    refine lv_aload_n hx hb dX0_areLimited_14 rfl (lv_at hl 0 rfl) ?_
    refine va_get (D := D) (ci := 0) (v := .ref (q 1)) hx hb hts hin hown hK hP 0 rfl rfl 1 (by decide) f13 (fun _ h9 => h9) rfl dX0_areLimited_15 ?_
    refine ro_V (As := [.int (nI g), .ref (q 1)]) (rest := []) ⟨hx, hb, hml, hown, hts⟩ (c_X0_areWithin_1 l D q F n R cI cZ g hw hg) (cwV 2 hts gX0_areLimited_X0_areWithin rfl rfl rfl (by decide +kernel) ⟨Nat.le_of_ble_eq_true rfl, Nat.le_of_ble_eq_true rfl⟩) hK hP hP (va_recv hK hP (ci := 0) (q0 := 0) rfl rfl) hS rfl hl.1 rfl (Nat.le_of_ble_eq_true rfl) dX0_areLimited_18 ⟨Nat.le_of_ble_eq_true rfl, Nat.le_of_ble_eq_true rfl⟩ (fun r H locs hr9 hP hS => ?_)
    subst hr9
    refine lv_if_eq (x := (bi (sWithin F 1 g))) (tgt := 28) hx hb dX0_areLimited_21 (by decide) (fun c_21 => ?_) (fun c_21 => ?_)
    · have c_21 := bi_e0.mp c_21
      refine lv_iconst (v := 0) hx hb dX0_areLimited_28 (by decide) ?_
      exact W.zret hx hb hr zn0 (fun t ht hW => ⟨⟨_, (), rfl, (by show 0 = bi (sLim F g); first | (simp only [bi, sLim, c_9, c_21, reduceIte, Bool.false_eq_true, Bool.true_eq_false]; done) | (simp [bi, sLim, c_9, c_21]; done)), trivial⟩, hS.F ht⟩) hS.2.2 dX0_areLimited_29
    · have c_21 := bi_n0.mp c_21
      refine lv_iconst (v := 1) hx hb dX0_areLimited_24 (by decide) ?_
      refine lv_goto (tgt := 29) hx hb dX0_areLimited_25 (by decide) ?_
      exact W.zret hx hb hr zn1 (fun t ht hW => ⟨⟨_, (), rfl, (by show 1 = bi (sLim F g); first | (simp only [bi, sLim, c_9, c_21, reduceIte, Bool.false_eq_true, Bool.true_eq_false]; done) | (simp [bi, sLim, c_9, c_21]; done)), trivial⟩, hS.F ht⟩) hS.2.2 dX0_areLimited_29
set_option maxHeartbeats 4000000 in
set_option maxRecDepth 100000 in
theorem c_X0_needOf (l : Launch) (D : va_G) (q : Nat → Nat) (F : Nat → Nat → Int32) (n : Nat) (R : Nat → Int32) (cI cZ : ClassId) (g : Nat) (h : Nat) (hw : WF F n) (hg : g < n) (hh : h < n) : Met l yX0_needOf wsX0_needOf ({ frames := 2, cells := 0, slots := 0, locals := 64 }) (va_Pc [.ref (q 9), .int (nI g), .int (nI h)] (rW D (wX q F (nI n) R cI cZ) (tIZ cI cZ))) (RO (fun r => r = sNeed F g h)) 0 0 nA := by
  refine ro_of (own := RX0) (cc := cX0_needOf) (maxL := 4) (ret := (some .int)) (by decide) rfl rfl (Nat.le_of_ble_eq_true rfl) ?_
  intro p9 e9 s m9 a9 below meth c9 ls hx hb hr hml hlocks hown hts hP hK hl
  have m142_l := hts (.methodLink RX0 142 Lib.Math.max.name) (by decide +kernel)
  have m142_s := hts (.static Lib.Math.max.name) (by decide +kernel)
  have m142_i := hts (.initialized "java/lang/Math") (by decide +kernel)
  have m142_c := hts (.code Lib.Math.max.name Lib.Math.max.code 2 (some .int)) (by decide +kernel)
  have hS : va_S nA s.heap s.heap [] := va_S.rf
  have hl : lv_has ls 4 [(0, .ref (q 9)), (1, .int (nI g)), (2, .int (nI h))] := hl
  refine lv_aload_n hx hb dX0_needOf_0 rfl (lv_at hl 0 rfl) ?_
  refine lv_iload_n hx hb dX0_needOf_1 rfl (lv_at hl 1 rfl) ?_
  refine ro_V (As := [.int (nI g)]) (rest := []) ⟨hx, hb, hml, hown, hts⟩ (c_X0_areExcepted l D q F n R cI cZ g hw hg) (cwV 1 hts gX0_needOf_X0_areExcepted rfl rfl rfl (by decide +kernel) ⟨Nat.le_of_ble_eq_true rfl, Nat.le_of_ble_eq_true rfl⟩) hK hP hP (va_recv hK hP (ci := 0) (q0 := 0) rfl rfl) hS rfl hl.1 rfl (Nat.le_of_ble_eq_true rfl) dX0_needOf_2 ⟨Nat.le_of_ble_eq_true rfl, Nat.le_of_ble_eq_true rfl⟩ (fun r H locs hr9 hP hS => ?_)
  subst hr9
  refine lv_if_ne (x := (bi (sExc F g))) (tgt := 16) hx hb dX0_needOf_5 (by decide) (fun c_5 => ?_) (fun c_5 => ?_)
  · have c_5 := bi_n0.mp c_5
    refine lv_iconst (v := 0) hx hb dX0_needOf_16 (by decide) ?_
    exact W.iret hx hb hr (fun t ht hW => ⟨⟨_, (), rfl, (by show 0 = sNeed F g h; first | (simp only [sNeed, iMax, c_5, reduceIte, Bool.false_eq_true, Bool.true_eq_false]; done) | (simp [sNeed, iMax, c_5]; done)), trivial⟩, hS.F ht⟩) hS.2.2 dX0_needOf_17
  · have c_5 := bi_e0.mp c_5
    refine lv_aload_n hx hb dX0_needOf_8 rfl (lv_at hl 0 rfl) ?_
    refine lv_iload_n hx hb dX0_needOf_9 rfl (lv_at hl 2 rfl) ?_
    refine ro_V (As := [.int (nI h)]) (rest := []) ⟨hx, hb, hml, hown, hts⟩ (c_X0_areExcepted l D q F n R cI cZ h hw hh) (cwV 1 hts gX0_needOf_X0_areExcepted rfl rfl rfl (by decide +kernel) ⟨Nat.le_of_ble_eq_true rfl, Nat.le_of_ble_eq_true rfl⟩) hK hP hP (va_recv hK hP (ci := 0) (q0 := 0) rfl rfl) hS rfl hl.1 rfl (Nat.le_of_ble_eq_true rfl) dX0_needOf_10 ⟨Nat.le_of_ble_eq_true rfl, Nat.le_of_ble_eq_true rfl⟩ (fun r H locs hr9 hP hS => ?_)
    subst hr9
    refine lv_if_eq (x := (bi (sExc F h))) (tgt := 18) hx hb dX0_needOf_13 (by decide) (fun c_13 => ?_) (fun c_13 => ?_)
    · have c_13 := bi_e0.mp c_13
      refine lv_aload_n hx hb dX0_needOf_18 rfl (lv_at hl 0 rfl) ?_
      refine lv_iload_n hx hb dX0_needOf_19 rfl (lv_at hl 1 rfl) ?_
      refine lv_iload_n hx hb dX0_needOf_20 rfl (lv_at hl 2 rfl) ?_
      refine ro_V (As := [.int (nI g), .int (nI h)]) (rest := []) ⟨hx, hb, hml, hown, hts⟩ (c_X0_greatestTableDistance l D q F n R cI cZ g h hw hg hh) (cwV 2 hts gX0_needOf_X0_greatestTableDistance rfl rfl rfl (by decide +kernel) ⟨Nat.le_of_ble_eq_true rfl, Nat.le_of_ble_eq_true rfl⟩) hK hP hP (va_recv hK hP (ci := 0) (q0 := 0) rfl rfl) hS rfl hl.1 rfl (Nat.le_of_ble_eq_true rfl) dX0_needOf_21 ⟨Nat.le_of_ble_eq_true rfl, Nat.le_of_ble_eq_true rfl⟩ (fun r H locs hr9 hP hS => ?_)
      subst hr9
      refine lv_istore_n (lv' := [(3, .int (sGreat F g h)), (0, .ref (q 9)), (1, .int (nI g)), (2, .int (nI h))]) hx hb dX0_needOf_24 rfl hl (by decide) rfl (fun ls hl => ?_)
      refine lv_aload_n hx hb dX0_needOf_25 rfl (lv_at hl 1 rfl) ?_
      refine lv_iload_n hx hb dX0_needOf_26 rfl (lv_at hl 2 rfl) ?_
      refine ro_V (As := [.int (nI g)]) (rest := []) ⟨hx, hb, hml, hown, hts⟩ (c_X0_areLimited l D q F n R cI cZ g hw hg) (cwV 1 hts gX0_needOf_X0_areLimited rfl rfl rfl (by decide +kernel) ⟨Nat.le_of_ble_eq_true rfl, Nat.le_of_ble_eq_true rfl⟩) hK hP hP (va_recv hK hP (ci := 0) (q0 := 0) rfl rfl) hS rfl hl.1 rfl (Nat.le_of_ble_eq_true rfl) dX0_needOf_27 ⟨Nat.le_of_ble_eq_true rfl, Nat.le_of_ble_eq_true rfl⟩ (fun r H locs hr9 hP hS => ?_)
      subst hr9
      refine lv_if_ne (x := (bi (sLim F g))) (tgt := 41) hx hb dX0_needOf_30 (by decide) (fun c_30 => ?_) (fun c_30 => ?_)
      · have c_30 := bi_n0.mp c_30
        refine lv_iload_n hx hb dX0_needOf_41 rfl (lv_at hl 0 rfl) ?_
        refine lv_iconst (v := 1) hx hb dX0_needOf_42 (by decide) ?_
        refine lv_isub hx hb (x := (sGreat F g h)) (y := 1) dX0_needOf_43 ?_
        refine lv_iconst (v := 0) hx hb dX0_needOf_44 (by decide) ?_
        refine va_mmax hx hb (hml.trans hl.1.symm) hown m142_l m142_s m142_i m142_c (Nat.le_of_ble_eq_true rfl) (Nat.le_of_ble_eq_true rfl) (Nat.zero_le _) (Nat.zero_le _) dX0_needOf_45 ?_
        exact W.iret hx hb hr (fun t ht hW => ⟨⟨_, (), rfl, (by show (iMax ((sGreat F g h) - 1) 0) = sNeed F g h; first | (simp only [sNeed, iMax, c_5, c_13, c_30, reduceIte, Bool.false_eq_true, Bool.true_eq_false]; done) | (simp [sNeed, iMax, c_5, c_13, c_30]; done)), trivial⟩, hS.F ht⟩) hS.2.2 dX0_needOf_48
      · have c_30 := bi_e0.mp c_30
        refine lv_aload_n hx hb dX0_needOf_33 rfl (lv_at hl 1 rfl) ?_
        refine lv_iload_n hx hb dX0_needOf_34 rfl (lv_at hl 3 rfl) ?_
        refine ro_V (As := [.int (nI h)]) (rest := []) ⟨hx, hb, hml, hown, hts⟩ (c_X0_areLimited l D q F n R cI cZ h hw hh) (cwV 1 hts gX0_needOf_X0_areLimited rfl rfl rfl (by decide +kernel) ⟨Nat.le_of_ble_eq_true rfl, Nat.le_of_ble_eq_true rfl⟩) hK hP hP (va_recv hK hP (ci := 0) (q0 := 0) rfl rfl) hS rfl hl.1 rfl (Nat.le_of_ble_eq_true rfl) dX0_needOf_35 ⟨Nat.le_of_ble_eq_true rfl, Nat.le_of_ble_eq_true rfl⟩ (fun r H locs hr9 hP hS => ?_)
        subst hr9
        refine lv_if_eq (x := (bi (sLim F h))) (tgt := 49) hx hb dX0_needOf_38 (by decide) (fun c_38 => ?_) (fun c_38 => ?_)
        · have c_38 := bi_e0.mp c_38
          refine lv_iload_n hx hb dX0_needOf_49 rfl (lv_at hl 0 rfl) ?_
          exact W.iret hx hb hr (fun t ht hW => ⟨⟨_, (), rfl, (by show (sGreat F g h) = sNeed F g h; first | (simp only [sNeed, iMax, c_5, c_13, c_30, c_38, reduceIte, Bool.false_eq_true, Bool.true_eq_false]; done) | (simp [sNeed, iMax, c_5, c_13, c_30, c_38]; done)), trivial⟩, hS.F ht⟩) hS.2.2 dX0_needOf_50
        · have c_38 := bi_n0.mp c_38
          refine lv_iload_n hx hb dX0_needOf_41 rfl (lv_at hl 0 rfl) ?_
          refine lv_iconst (v := 1) hx hb dX0_needOf_42 (by decide) ?_
          refine lv_isub hx hb (x := (sGreat F g h)) (y := 1) dX0_needOf_43 ?_
          refine lv_iconst (v := 0) hx hb dX0_needOf_44 (by decide) ?_
          refine va_mmax hx hb (hml.trans hl.1.symm) hown m142_l m142_s m142_i m142_c (Nat.le_of_ble_eq_true rfl) (Nat.le_of_ble_eq_true rfl) (Nat.zero_le _) (Nat.zero_le _) dX0_needOf_45 ?_
          exact W.iret hx hb hr (fun t ht hW => ⟨⟨_, (), rfl, (by show (iMax ((sGreat F g h) - 1) 0) = sNeed F g h; first | (simp only [sNeed, iMax, c_5, c_13, c_30, c_38, reduceIte, Bool.false_eq_true, Bool.true_eq_false]; done) | (simp [sNeed, iMax, c_5, c_13, c_30, c_38]; done)), trivial⟩, hS.F ht⟩) hS.2.2 dX0_needOf_48
    · have c_13 := bi_n0.mp c_13
      refine lv_iconst (v := 0) hx hb dX0_needOf_16 (by decide) ?_
      exact W.iret hx hb hr (fun t ht hW => ⟨⟨_, (), rfl, (by show 0 = sNeed F g h; first | (simp only [sNeed, iMax, c_5, c_13, reduceIte, Bool.false_eq_true, Bool.true_eq_false]; done) | (simp [sNeed, iMax, c_5, c_13]; done)), trivial⟩, hS.F ht⟩) hS.2.2 dX0_needOf_17
set_option maxHeartbeats 4000000 in
set_option maxRecDepth 100000 in
theorem c_X0_wouldBreach (l : Launch) (D : va_G) (q : Nat → Nat) (F : Nat → Nat → Int32) (n : Nat) (R : Nat → Int32) (cI cZ : ClassId) (g : Nat) (p : Int32) (h : Nat) (hw : WF F n) (hg : g < n) (hh : h < n) : Met l yX0_wouldBreach wsX0_wouldBreach ({ frames := 3, cells := 0, slots := 0, locals := 87 }) (va_Pc [.ref (q 9), .int (nI g), .int p, .int (nI h)] (rW D (wX q F (nI n) R cI cZ) (tIZ cI cZ))) (RO (fun r => r = bi (sBreach F g p h))) 0 0 nA := by
  refine ro_of (own := RX0) (cc := cX0_wouldBreach) (maxL := 4) (ret := (some .boolean)) (by decide) rfl rfl (Nat.le_of_ble_eq_true rfl) ?_
  intro p9 e9 s m9 a9 below meth c9 ls hx hb hr hml hlocks hown hts hP hK hl
  have hin : ∀ w ∈ wsX00, w ∈ wsX0_wouldBreach := by decide +kernel
  have f32 := hts (.fieldLink RX0 32 "DangerousGoods" "places" "[I") (by decide +kernel)
  have hS : va_S nA s.heap s.heap [] := va_S.rf
  have hl : lv_has ls 4 [(0, .ref (q 9)), (1, .int (nI g)), (2, .int p), (3, .int (nI h))] := hl
  refine lv_iload_n hx hb dX0_wouldBreach_0 rfl (lv_at hl 2 rfl) ?_
  refine lv_iconst (v := (-1)) hx hb dX0_wouldBreach_1 (by decide) ?_
  refine lv_icmp_eq (x := p) (y := (-1)) (tgt := 15) hx hb dX0_wouldBreach_2 (by decide) (fun c_2 => ?_) (fun c_2 => ?_)
  · skip
    refine lv_iconst (v := 0) hx hb dX0_wouldBreach_15 (by decide) ?_
    exact W.zret hx hb hr zn0 (fun t ht hW => ⟨⟨_, (), rfl, (by show 0 = bi (sBreach F g p h); first | (simp only [bi, sBreach, eq_true c_2, reduceIte, Bool.false_eq_true, Bool.true_eq_false]; done) | (simp [bi, sBreach, eq_true c_2]; done)), trivial⟩, hS.F ht⟩) hS.2.2 dX0_wouldBreach_16
  · skip
    refine lv_aload_n hx hb dX0_wouldBreach_5 rfl (lv_at hl 0 rfl) ?_
    refine va_get (D := D) (ci := 0) (v := .ref (q 7)) hx hb hts hin hown hK hP 0 rfl rfl 7 (by decide) f32 (fun _ h9 => h9) rfl dX0_wouldBreach_6 ?_
    refine lv_iload_n hx hb dX0_wouldBreach_9 rfl (lv_at hl 3 rfl) ?_
    refine xiald hx hb hK hP 8 0 rfl rfl (g := h) (hw.g hh) (by decide) dX0_wouldBreach_10 ?_
    refine lv_iconst (v := (-1)) hx hb dX0_wouldBreach_11 (by decide) ?_
    refine lv_icmp_ne (x := (F 7 h)) (y := (-1)) (tgt := 17) hx hb dX0_wouldBreach_12 (by decide) (fun c_12 => ?_) (fun c_12 => ?_)
    · skip
      refine lv_iload_n hx hb dX0_wouldBreach_17 rfl (lv_at hl 2 rfl) ?_
      refine lv_aload_n hx hb dX0_wouldBreach_18 rfl (lv_at hl 0 rfl) ?_
      refine va_get (D := D) (ci := 0) (v := .ref (q 7)) hx hb hts hin hown hK hP 0 rfl rfl 7 (by decide) f32 (fun _ h9 => h9) rfl dX0_wouldBreach_19 ?_
      refine lv_iload_n hx hb dX0_wouldBreach_22 rfl (lv_at hl 3 rfl) ?_
      refine xiald hx hb hK hP 8 0 rfl rfl (g := h) (hw.g hh) (by decide) dX0_wouldBreach_23 ?_
      refine ro_S (As := [.int p, .int (F 7 h)]) (rest := []) ⟨hx, hb, hml, hown, hts⟩ (c_X0_distanceBetween l p (F 7 h)) (va_cwS 2 hts gX0_wouldBreach_X0_distanceBetween rfl rfl rfl (by decide +kernel) ⟨Nat.le_of_ble_eq_true rfl, Nat.le_of_ble_eq_true rfl⟩) hP hS rfl hl.1 rfl (Nat.le_of_ble_eq_true rfl) dX0_wouldBreach_24 ⟨Nat.le_of_ble_eq_true rfl, Nat.le_of_ble_eq_true rfl⟩ (fun r H locs hr9 hP hS => ?_)
      subst hr9
      refine lv_aload_n hx hb dX0_wouldBreach_27 rfl (lv_at hl 0 rfl) ?_
      refine lv_iload_n hx hb dX0_wouldBreach_28 rfl (lv_at hl 1 rfl) ?_
      refine lv_iload_n hx hb dX0_wouldBreach_29 rfl (lv_at hl 3 rfl) ?_
      refine ro_V (As := [.int (nI g), .int (nI h)]) (rest := [.int (sDist p (F 7 h))]) ⟨hx, hb, hml, hown, hts⟩ (c_X0_needOf l D q F n R cI cZ g h hw hg hh) (cwV 2 hts gX0_wouldBreach_X0_needOf rfl rfl rfl (by decide +kernel) ⟨Nat.le_of_ble_eq_true rfl, Nat.le_of_ble_eq_true rfl⟩) hK hP hP (va_recv hK hP (ci := 0) (q0 := 0) rfl rfl) hS rfl hl.1 rfl (Nat.le_of_ble_eq_true rfl) dX0_wouldBreach_30 ⟨Nat.le_of_ble_eq_true rfl, Nat.le_of_ble_eq_true rfl⟩ (fun r H locs hr9 hP hS => ?_)
      subst hr9
      refine lv_icmp_ge (x := (sDist p (F 7 h))) (y := (sNeed F g h)) (tgt := 40) hx hb dX0_wouldBreach_33 (by decide) (fun c_33 => ?_) (fun c_33 => ?_)
      · skip
        refine lv_iconst (v := 0) hx hb dX0_wouldBreach_40 (by decide) ?_
        exact W.zret hx hb hr zn0 (fun t ht hW => ⟨⟨_, (), rfl, (by show 0 = bi (sBreach F g p h); first | (simp only [bi, sBreach, eq_false c_2, eq_false c_12, eq_true c_33, reduceIte, Bool.false_eq_true, Bool.true_eq_false]; done) | (simp [bi, sBreach, eq_false c_2, eq_false c_12, eq_true c_33]; done)), trivial⟩, hS.F ht⟩) hS.2.2 dX0_wouldBreach_41
      · skip
        refine lv_iconst (v := 1) hx hb dX0_wouldBreach_36 (by decide) ?_
        refine lv_goto (tgt := 41) hx hb dX0_wouldBreach_37 (by decide) ?_
        exact W.zret hx hb hr zn1 (fun t ht hW => ⟨⟨_, (), rfl, (by show 1 = bi (sBreach F g p h); first | (simp only [bi, sBreach, eq_false c_2, eq_false c_12, eq_false c_33, reduceIte, Bool.false_eq_true, Bool.true_eq_false]; done) | (simp [bi, sBreach, eq_false c_2, eq_false c_12, eq_false c_33]; done)), trivial⟩, hS.F ht⟩) hS.2.2 dX0_wouldBreach_41
    · skip
      refine lv_iconst (v := 0) hx hb dX0_wouldBreach_15 (by decide) ?_
      exact W.zret hx hb hr zn0 (fun t ht hW => ⟨⟨_, (), rfl, (by show 0 = bi (sBreach F g p h); first | (simp only [bi, sBreach, eq_false c_2, eq_true c_12, reduceIte, Bool.false_eq_true, Bool.true_eq_false]; done) | (simp [bi, sBreach, eq_false c_2, eq_true c_12]; done)), trivial⟩, hS.F ht⟩) hS.2.2 dX0_wouldBreach_16
set_option maxHeartbeats 4000000 in
set_option maxRecDepth 100000 in
theorem c_X0_isBarredFrom (l : Launch) (D : va_G) (q : Nat → Nat) (F : Nat → Nat → Int32) (n : Nat) (R : Nat → Int32) (cI cZ : ClassId) (c1 : Int32) (d : Int32) (h1 : okC c1) (hd : d = 0 ∨ d = 1) : Met l yX0_isBarredFrom wsX0_isBarredFrom ({ frames := 0, cells := 0, slots := 0, locals := 0 }) (va_Pc [.ref (q 9), .int c1, .int d] (rW D (wX q F (nI n) R cI cZ) (tIZ cI cZ))) (RO (fun r => r = bi (sBarred F c1 d))) 0 0 nA := by
  refine ro_of (own := RX0) (cc := cX0_isBarredFrom) (maxL := 3) (ret := (some .boolean)) (by decide) rfl rfl (Nat.le_of_ble_eq_true rfl) ?_
  intro p9 e9 s m9 a9 below meth c9 ls hx hb hr hml hlocks hown hts hP hK hl
  have hin : ∀ w ∈ wsX00, w ∈ wsX0_isBarredFrom := by decide +kernel
  have f19 := hts (.fieldLink RX0 19 "DangerousGoods" "barred" "[Z") (by decide +kernel)
  have hS : va_S nA s.heap s.heap [] := va_S.rf
  have hl : lv_has ls 3 [(0, .ref (q 9)), (1, .int c1), (2, .int d)] := hl
  refine lv_iload_n hx hb dX0_isBarredFrom_0 rfl (lv_at hl 1 rfl) ?_
  refine lv_iconst (v := (-1)) hx hb dX0_isBarredFrom_1 (by decide) ?_
  refine lv_icmp_eq (x := c1) (y := (-1)) (tgt := 22) hx hb dX0_isBarredFrom_2 (by decide) (fun c_2 => ?_) (fun c_2 => ?_)
  · skip
    refine lv_iconst (v := 0) hx hb dX0_isBarredFrom_22 (by decide) ?_
    exact W.zret hx hb hr zn0 (fun t ht hW => ⟨⟨_, (), rfl, (by show 0 = bi (sBarred F c1 d); first | (simp only [bi, sBarred, eq_true c_2, reduceIte, Bool.false_eq_true, Bool.true_eq_false]; done) | (simp [bi, sBarred, eq_true c_2]; done)), trivial⟩, hS.F ht⟩) hS.2.2 dX0_isBarredFrom_23
  · skip
    refine lv_aload_n hx hb dX0_isBarredFrom_5 rfl (lv_at hl 0 rfl) ?_
    refine va_get (D := D) (ci := 0) (v := .ref (q 3)) hx hb hts hin hown hK hP 0 rfl rfl 3 (by decide) f19 (fun _ h9 => h9) rfl dX0_isBarredFrom_6 ?_
    refine lv_iload_n hx hb dX0_isBarredFrom_9 rfl (lv_at hl 1 rfl) ?_
    refine lv_iconst (v := 2) hx hb dX0_isBarredFrom_10 (by decide) ?_
    refine lv_imul hx hb (x := c1) (y := 2) dX0_isBarredFrom_11 ?_
    refine lv_iload_n hx hb dX0_isBarredFrom_12 rfl (lv_at hl 2 rfl) ?_
    refine lv_iadd hx hb (x := (c1 * 2)) (y := d) dX0_isBarredFrom_13 ?_
    refine va_zald hx hb hK hP 4 1 rfl rfl (i := ((c1 * 2) + d)) (bar_in h1 c_2 hd) dX0_isBarredFrom_14 ?_
    refine lv_if_eq (x := (F 3 ((c1 * 2) + d).toNatClampNeg)) (tgt := 22) hx hb dX0_isBarredFrom_15 (by decide) (fun c_15 => ?_) (fun c_15 => ?_)
    · skip
      refine lv_iconst (v := 0) hx hb dX0_isBarredFrom_22 (by decide) ?_
      exact W.zret hx hb hr zn0 (fun t ht hW => ⟨⟨_, (), rfl, (by show 0 = bi (sBarred F c1 d); first | (simp only [bi, sBarred, eq_false c_2, eq_true c_15, reduceIte, Bool.false_eq_true, Bool.true_eq_false]; done) | (simp [bi, sBarred, eq_false c_2, eq_true c_15]; done)), trivial⟩, hS.F ht⟩) hS.2.2 dX0_isBarredFrom_23
    · skip
      refine lv_iconst (v := 1) hx hb dX0_isBarredFrom_18 (by decide) ?_
      refine lv_goto (tgt := 23) hx hb dX0_isBarredFrom_19 (by decide) ?_
      exact W.zret hx hb hr zn1 (fun t ht hW => ⟨⟨_, (), rfl, (by show 1 = bi (sBarred F c1 d); first | (simp only [bi, sBarred, eq_false c_2, eq_false c_15, reduceIte, Bool.false_eq_true, Bool.true_eq_false]; done) | (simp [bi, sBarred, eq_false c_2, eq_false c_15]; done)), trivial⟩, hS.F ht⟩) hS.2.2 dX0_isBarredFrom_23
set_option maxHeartbeats 4000000 in
set_option maxRecDepth 100000 in
theorem c_X0_wouldBeMisplaced (l : Launch) (D : va_G) (q : Nat → Nat) (F : Nat → Nat → Int32) (n : Nat) (R : Nat → Int32) (cI cZ : ClassId) (g : Nat) (p : Int32) (hw : WF F n) (hg : g < n) (hp : okP p) : Met l yX0_wouldBeMisplaced wsX0_wouldBeMisplaced ({ frames := 2, cells := 0, slots := 0, locals := 45 }) (va_Pc [.ref (q 9), .int (nI g), .int p] (rW D (wX q F (nI n) R cI cZ) (tIZ cI cZ))) (RO (fun r => r = bi (sMis F g p))) 0 0 nA := by
  refine ro_of (own := RX0) (cc := cX0_wouldBeMisplaced) (maxL := 4) (ret := (some .boolean)) (by decide) rfl rfl (Nat.le_of_ble_eq_true rfl) ?_
  intro p9 e9 s m9 a9 below meth c9 ls hx hb hr hml hlocks hown hts hP hK hl
  have hin : ∀ w ∈ wsX00, w ∈ wsX0_wouldBeMisplaced := by decide +kernel
  have f23 := hts (.fieldLink RX0 23 "DangerousGoods" "classes" "[I") (by decide +kernel)
  have f26 := hts (.fieldLink RX0 26 "DangerousGoods" "subsidiaries" "[I") (by decide +kernel)
  have hS : va_S nA s.heap s.heap [] := va_S.rf
  have hl : lv_has ls 4 [(0, .ref (q 9)), (1, .int (nI g)), (2, .int p)] := hl
  refine lv_iload_n hx hb dX0_wouldBeMisplaced_0 rfl (lv_at hl 2 rfl) ?_
  refine lv_iconst (v := (-1)) hx hb dX0_wouldBeMisplaced_1 (by decide) ?_
  refine lv_icmp_eq (x := p) (y := (-1)) (tgt := 13) hx hb dX0_wouldBeMisplaced_2 (by decide) (fun c_2 => ?_) (fun c_2 => ?_)
  · skip
    refine lv_iconst (v := 0) hx hb dX0_wouldBeMisplaced_13 (by decide) ?_
    exact W.zret hx hb hr zn0 (fun t ht hW => ⟨⟨_, (), rfl, (by show 0 = bi (sMis F g p); first | (simp only [bi, sMis, eq_true c_2, reduceIte, Bool.false_eq_true, Bool.true_eq_false]; done) | (simp [bi, sMis, eq_true c_2]; done)), trivial⟩, hS.F ht⟩) hS.2.2 dX0_wouldBeMisplaced_14
  · skip
    refine lv_aload_n hx hb dX0_wouldBeMisplaced_5 rfl (lv_at hl 0 rfl) ?_
    refine lv_iload_n hx hb dX0_wouldBeMisplaced_6 rfl (lv_at hl 1 rfl) ?_
    refine ro_V (As := [.int (nI g)]) (rest := []) ⟨hx, hb, hml, hown, hts⟩ (c_X0_areExcepted l D q F n R cI cZ g hw hg) (cwV 1 hts gX0_wouldBeMisplaced_X0_areExcepted rfl rfl rfl (by decide +kernel) ⟨Nat.le_of_ble_eq_true rfl, Nat.le_of_ble_eq_true rfl⟩) hK hP hP (va_recv hK hP (ci := 0) (q0 := 0) rfl rfl) hS rfl hl.1 rfl (Nat.le_of_ble_eq_true rfl) dX0_wouldBeMisplaced_7 ⟨Nat.le_of_ble_eq_true rfl, Nat.le_of_ble_eq_true rfl⟩ (fun r H locs hr9 hP hS => ?_)
    subst hr9
    refine lv_if_eq (x := (bi (sExc F g))) (tgt := 15) hx hb dX0_wouldBeMisplaced_10 (by decide) (fun c_10 => ?_) (fun c_10 => ?_)
    · have c_10 := bi_e0.mp c_10
      refine lv_iload_n hx hb dX0_wouldBeMisplaced_15 rfl (lv_at hl 2 rfl) ?_
      refine ro_S (As := [.int p]) (rest := []) ⟨hx, hb, hml, hown, hts⟩ (c_X0_deckOf l p) (va_cwS 1 hts gX0_wouldBeMisplaced_X0_deckOf rfl rfl rfl (by decide +kernel) ⟨Nat.le_of_ble_eq_true rfl, Nat.le_of_ble_eq_true rfl⟩) hP hS rfl hl.1 rfl (Nat.le_of_ble_eq_true rfl) dX0_wouldBeMisplaced_16 ⟨Nat.le_of_ble_eq_true rfl, Nat.le_of_ble_eq_true rfl⟩ (fun r H locs hr9 hP hS => ?_)
      subst hr9
      refine lv_istore_n (lv' := [(3, .int (sDeck p)), (0, .ref (q 9)), (1, .int (nI g)), (2, .int p)]) hx hb dX0_wouldBeMisplaced_19 rfl hl (by decide) rfl (fun ls hl => ?_)
      refine lv_aload_n hx hb dX0_wouldBeMisplaced_20 rfl (lv_at hl 1 rfl) ?_
      refine lv_aload_n hx hb dX0_wouldBeMisplaced_21 rfl (lv_at hl 1 rfl) ?_
      refine va_get (D := D) (ci := 0) (v := .ref (q 4)) hx hb hts hin hown hK hP 0 rfl rfl 4 (by decide) f23 (fun _ h9 => h9) rfl dX0_wouldBeMisplaced_22 ?_
      refine lv_iload_n hx hb dX0_wouldBeMisplaced_25 rfl (lv_at hl 2 rfl) ?_
      refine xiald hx hb hK hP 5 0 rfl rfl (g := g) (hw.g hg) (by decide) dX0_wouldBeMisplaced_26 ?_
      refine lv_iload_n hx hb dX0_wouldBeMisplaced_27 rfl (lv_at hl 0 rfl) ?_
      refine ro_V (As := [.int (F 4 g), .int (sDeck p)]) (rest := []) ⟨hx, hb, hml, hown, hts⟩ (c_X0_isBarredFrom l D q F n R cI cZ (F 4 g) (sDeck p) (hw.c4 hg) (deck_01 hp c_2)) (cwV 2 hts gX0_wouldBeMisplaced_X0_isBarredFrom rfl rfl rfl (by decide +kernel) ⟨Nat.le_of_ble_eq_true rfl, Nat.le_of_ble_eq_true rfl⟩) hK hP hP (va_recv hK hP (ci := 0) (q0 := 0) rfl rfl) hS rfl hl.1 rfl (Nat.le_of_ble_eq_true rfl) dX0_wouldBeMisplaced_28 ⟨Nat.le_of_ble_eq_true rfl, Nat.le_of_ble_eq_true rfl⟩ (fun r H locs hr9 hP hS => ?_)
      subst hr9
      refine lv_if_ne (x := (bi (sBarred F (F 4 g) (sDeck p)))) (tgt := 48) hx hb dX0_wouldBeMisplaced_31 (by decide) (fun c_31 => ?_) (fun c_31 => ?_)
      · have c_31 := bi_n0.mp c_31
        refine lv_iconst (v := 1) hx hb dX0_wouldBeMisplaced_48 (by decide) ?_
        refine lv_goto (tgt := 53) hx hb dX0_wouldBeMisplaced_49 (by decide) ?_
        exact W.zret hx hb hr zn1 (fun t ht hW => ⟨⟨_, (), rfl, (by show 1 = bi (sMis F g p); first | (simp only [bi, sMis, eq_false c_2, c_10, c_31, reduceIte, Bool.false_eq_true, Bool.true_eq_false]; done) | (simp [bi, sMis, eq_false c_2, c_10, c_31]; done)), trivial⟩, hS.F ht⟩) hS.2.2 dX0_wouldBeMisplaced_53
      · have c_31 := bi_e0.mp c_31
        refine lv_aload_n hx hb dX0_wouldBeMisplaced_34 rfl (lv_at hl 1 rfl) ?_
        refine lv_aload_n hx hb dX0_wouldBeMisplaced_35 rfl (lv_at hl 1 rfl) ?_
        refine va_get (D := D) (ci := 0) (v := .ref (q 5)) hx hb hts hin hown hK hP 0 rfl rfl 5 (by decide) f26 (fun _ h9 => h9) rfl dX0_wouldBeMisplaced_36 ?_
        refine lv_iload_n hx hb dX0_wouldBeMisplaced_39 rfl (lv_at hl 2 rfl) ?_
        refine xiald hx hb hK hP 6 0 rfl rfl (g := g) (hw.g hg) (by decide) dX0_wouldBeMisplaced_40 ?_
        refine lv_iload_n hx hb dX0_wouldBeMisplaced_41 rfl (lv_at hl 0 rfl) ?_
        refine ro_V (As := [.int (F 5 g), .int (sDeck p)]) (rest := []) ⟨hx, hb, hml, hown, hts⟩ (c_X0_isBarredFrom l D q F n R cI cZ (F 5 g) (sDeck p) (hw.c5 hg) (deck_01 hp c_2)) (cwV 2 hts gX0_wouldBeMisplaced_X0_isBarredFrom rfl rfl rfl (by decide +kernel) ⟨Nat.le_of_ble_eq_true rfl, Nat.le_of_ble_eq_true rfl⟩) hK hP hP (va_recv hK hP (ci := 0) (q0 := 0) rfl rfl) hS rfl hl.1 rfl (Nat.le_of_ble_eq_true rfl) dX0_wouldBeMisplaced_42 ⟨Nat.le_of_ble_eq_true rfl, Nat.le_of_ble_eq_true rfl⟩ (fun r H locs hr9 hP hS => ?_)
        subst hr9
        refine lv_if_eq (x := (bi (sBarred F (F 5 g) (sDeck p)))) (tgt := 52) hx hb dX0_wouldBeMisplaced_45 (by decide) (fun c_45 => ?_) (fun c_45 => ?_)
        · have c_45 := bi_e0.mp c_45
          refine lv_iconst (v := 0) hx hb dX0_wouldBeMisplaced_52 (by decide) ?_
          exact W.zret hx hb hr zn0 (fun t ht hW => ⟨⟨_, (), rfl, (by show 0 = bi (sMis F g p); first | (simp only [bi, sMis, eq_false c_2, c_10, c_31, c_45, reduceIte, Bool.false_eq_true, Bool.true_eq_false]; done) | (simp [bi, sMis, eq_false c_2, c_10, c_31, c_45]; done)), trivial⟩, hS.F ht⟩) hS.2.2 dX0_wouldBeMisplaced_53
        · have c_45 := bi_n0.mp c_45
          refine lv_iconst (v := 1) hx hb dX0_wouldBeMisplaced_48 (by decide) ?_
          refine lv_goto (tgt := 53) hx hb dX0_wouldBeMisplaced_49 (by decide) ?_
          exact W.zret hx hb hr zn1 (fun t ht hW => ⟨⟨_, (), rfl, (by show 1 = bi (sMis F g p); first | (simp only [bi, sMis, eq_false c_2, c_10, c_31, c_45, reduceIte, Bool.false_eq_true, Bool.true_eq_false]; done) | (simp [bi, sMis, eq_false c_2, c_10, c_31, c_45]; done)), trivial⟩, hS.F ht⟩) hS.2.2 dX0_wouldBeMisplaced_53
    · have c_10 := bi_n0.mp c_10
      refine lv_iconst (v := 0) hx hb dX0_wouldBeMisplaced_13 (by decide) ?_
      exact W.zret hx hb hr zn0 (fun t ht hW => ⟨⟨_, (), rfl, (by show 0 = bi (sMis F g p); first | (simp only [bi, sMis, eq_false c_2, c_10, reduceIte, Bool.false_eq_true, Bool.true_eq_false]; done) | (simp [bi, sMis, eq_false c_2, c_10]; done)), trivial⟩, hS.F ht⟩) hS.2.2 dX0_wouldBeMisplaced_14

/-! the class: the search for those who leave -/
set_option maxHeartbeats 4000000 in
set_option maxRecDepth 100000 in
theorem c_J6_bitCount_0f7a4 (l : Launch) (x : Nat) (h16 : x < 65536) : Met l yJ6_bitCount_0f7a4 wsJ6_bitCount_0f7a4 ({ frames := 0, cells := 0, slots := 0, locals := 0 }) (va_Pc [.int (nI x)] (fun _ => True)) (RO (fun r => r = nI (pcn x))) 0 0 nA := by
  refine ro_ofS (own := RJ6) (cc := cJ6_bitCount_0f7a4) (maxL := 1) (ret := (some .int)) (by decide) rfl rfl (Nat.le_of_ble_eq_true rfl) ?_
  intro p9 e9 s m9 a9 below meth c9 ls hx hb hr hml hlocks hown hts hP hl
  have hS : va_S nA s.heap s.heap [] := va_S.rf
  have hl : lv_has ls 1 [(0, .int (nI x))] := hl
  refine lv_iload_n hx hb dJ6_bitCount_0f7a4_0 rfl (lv_at hl 0 rfl) ?_
  refine lv_iload_n hx hb dJ6_bitCount_0f7a4_1 rfl (lv_at hl 0 rfl) ?_
  refine lv_iconst (v := 1) hx hb dJ6_bitCount_0f7a4_2 (by decide) ?_
  refine lv_iushr hx hb (x := (nI x)) (y := (1 : Int32)) dJ6_bitCount_0f7a4_3 rfl ?_
  refine lv_ldcw hx hb hown (hts (.constant RJ6 265 (1431655765)) (by decide +kernel)) dJ6_bitCount_0f7a4_4 ?_
  refine lv_iand hx hb (x := (((nI x).toUInt32 >>> ((1 : Int32).toUInt32 &&& Int32.toUInt32 31)).toInt32)) (y := 1431655765) dJ6_bitCount_0f7a4_7 ?_
  refine lv_isub hx hb (x := (nI x)) (y := ((((nI x).toUInt32 >>> ((1 : Int32).toUInt32 &&& Int32.toUInt32 31)).toInt32) &&& 1431655765)) dJ6_bitCount_0f7a4_8 ?_
  refine lv_istore_n (lv' := [(0, .int (bc1 (nI x)))]) hx hb dJ6_bitCount_0f7a4_9 rfl hl (by decide) rfl (fun ls hl => ?_)
  refine lv_iload_n hx hb dJ6_bitCount_0f7a4_10 rfl (lv_at hl 0 rfl) ?_
  refine lv_ldcw hx hb hown (hts (.constant RJ6 266 (858993459)) (by decide +kernel)) dJ6_bitCount_0f7a4_11 ?_
  refine lv_iand hx hb (x := (bc1 (nI x))) (y := 858993459) dJ6_bitCount_0f7a4_14 ?_
  refine lv_iload_n hx hb dJ6_bitCount_0f7a4_15 rfl (lv_at hl 0 rfl) ?_
  refine lv_iconst (v := 2) hx hb dJ6_bitCount_0f7a4_16 (by decide) ?_
  refine lv_iushr hx hb (x := (bc1 (nI x))) (y := (2 : Int32)) dJ6_bitCount_0f7a4_17 rfl ?_
  refine lv_ldcw hx hb hown (hts (.constant RJ6 266 (858993459)) (by decide +kernel)) dJ6_bitCount_0f7a4_18 ?_
  refine lv_iand hx hb (x := (((bc1 (nI x)).toUInt32 >>> ((2 : Int32).toUInt32 &&& Int32.toUInt32 31)).toInt32)) (y := 858993459) dJ6_bitCount_0f7a4_21 ?_
  refine lv_iadd hx hb (x := ((bc1 (nI x)) &&& 858993459)) (y := ((((bc1 (nI x)).toUInt32 >>> ((2 : Int32).toUInt32 &&& Int32.toUInt32 31)).toInt32) &&& 858993459)) dJ6_bitCount_0f7a4_22 ?_
  refine lv_istore_n (lv' := [(0, .int (bc2 (bc1 (nI x))))]) hx hb dJ6_bitCount_0f7a4_23 rfl hl (by decide) rfl (fun ls hl => ?_)
  refine lv_iload_n hx hb dJ6_bitCount_0f7a4_24 rfl (lv_at hl 0 rfl) ?_
  refine lv_iload_n hx hb dJ6_bitCount_0f7a4_25 rfl (lv_at hl 0 rfl) ?_
  refine lv_iconst (v := 4) hx hb dJ6_bitCount_0f7a4_26 (by decide) ?_
  refine lv_iushr hx hb (x := (bc2 (bc1 (nI x)))) (y := (4 : Int32)) dJ6_bitCount_0f7a4_27 rfl ?_
  refine lv_iadd hx hb (x := (bc2 (bc1 (nI x)))) (y := (((bc2 (bc1 (nI x))).toUInt32 >>> ((4 : Int32).toUInt32 &&& Int32.toUInt32 31)).toInt32)) dJ6_bitCount_0f7a4_28 ?_
  refine lv_ldcw hx hb hown (hts (.constant RJ6 267 (252645135)) (by decide +kernel)) dJ6_bitCount_0f7a4_29 ?_
  refine lv_iand hx hb (x := ((bc2 (bc1 (nI x))) + (((bc2 (bc1 (nI x))).toUInt32 >>> ((4 : Int32).toUInt32 &&& Int32.toUInt32 31)).toInt32))) (y := 252645135) dJ6_bitCount_0f7a4_32 ?_
  refine lv_istore_n (lv' := [(0, .int (bc3 (bc2 (bc1 (nI x)))))]) hx hb dJ6_bitCount_0f7a4_33 rfl hl (by decide) rfl (fun ls hl => ?_)
  refine lv_iload_n hx hb dJ6_bitCount_0f7a4_34 rfl (lv_at hl 0 rfl) ?_
  refine lv_iload_n hx hb dJ6_bitCount_0f7a4_35 rfl (lv_at hl 0 rfl) ?_
  refine lv_bipush (v := 8) hx hb dJ6_bitCount_0f7a4_36 (by decide) ?_
  refine lv_iushr hx hb (x := (bc3 (bc2 (bc1 (nI x))))) (y := (8 : Int32)) dJ6_bitCount_0f7a4_38 rfl ?_
  refine lv_iadd hx hb (x := (bc3 (bc2 (bc1 (nI x))))) (y := (((bc3 (bc2 (bc1 (nI x)))).toUInt32 >>> ((8 : Int32).toUInt32 &&& Int32.toUInt32 31)).toInt32)) dJ6_bitCount_0f7a4_39 ?_
  refine lv_istore_n (lv' := [(0, .int (bc4 (bc3 (bc2 (bc1 (nI x))))))]) hx hb dJ6_bitCount_0f7a4_40 rfl hl (by decide) rfl (fun ls hl => ?_)
  refine lv_iload_n hx hb dJ6_bitCount_0f7a4_41 rfl (lv_at hl 0 rfl) ?_
  refine lv_iload_n hx hb dJ6_bitCount_0f7a4_42 rfl (lv_at hl 0 rfl) ?_
  refine lv_bipush (v := 16) hx hb dJ6_bitCount_0f7a4_43 (by decide) ?_
  refine lv_iushr hx hb (x := (bc4 (bc3 (bc2 (bc1 (nI x)))))) (y := (16 : Int32)) dJ6_bitCount_0f7a4_45 rfl ?_
  refine lv_iadd hx hb (x := (bc4 (bc3 (bc2 (bc1 (nI x)))))) (y := (((bc4 (bc3 (bc2 (bc1 (nI x))))).toUInt32 >>> ((16 : Int32).toUInt32 &&& Int32.toUInt32 31)).toInt32)) dJ6_bitCount_0f7a4_46 ?_
  refine lv_istore_n (lv' := [(0, .int (bc5 (bc4 (bc3 (bc2 (bc1 (nI x)))))))]) hx hb dJ6_bitCount_0f7a4_47 rfl hl (by decide) rfl (fun ls hl => ?_)
  refine lv_iload_n hx hb dJ6_bitCount_0f7a4_48 rfl (lv_at hl 0 rfl) ?_
  refine lv_bipush (v := 63) hx hb dJ6_bitCount_0f7a4_49 (by decide) ?_
  refine lv_iand hx hb (x := (bc5 (bc4 (bc3 (bc2 (bc1 (nI x))))))) (y := 63) dJ6_bitCount_0f7a4_51 ?_
  exact W.iret hx hb hr (fun t ht hW => ⟨⟨_, (), rfl, (by show ((bc5 (bc4 (bc3 (bc2 (bc1 (nI x)))))) &&& 63) = nI (pcn x); exact bcI_n h16), trivial⟩, hS.F ht⟩) hS.2.2 dJ6_bitCount_0f7a4_52
set_option maxHeartbeats 8000000 in
set_option maxRecDepth 100000 in
theorem c_X0_searchLeaving (l : Launch) (D : va_G) (qr : Nat) (R : Nat → Int32) (cI : ClassId) (rows : Nat → Nat) : ∀ (k lv best : Nat), (∀ j, j < k → R j = nI (rows j) ∧ rows j < 65536) → k ≤ 16 → lv < 65536 → best < 65536 → Met l yX0_searchLeaving wsX0_searchLeaving ({ frames := k + 1, cells := 0, slots := 0, locals := 40 * k + 40 }) (va_Pc [.ref qr, .int (gI k), .int (nI lv), .int (nI best)] (rW D [(qr, .inl (cI, 16, .inl R))] [(cI, .int)])) (RO (fun r => r = nI (srch rows k lv best))) 0 0 nA := by
  intro k
  induction k with
  | zero =>
    intro lv best hR hk hlv hbest
    refine ro_of (own := RX0) (cc := cX0_searchLeaving) (maxL := 6) (ret := (some .int)) (by decide) rfl rfl (Nat.le_of_ble_eq_true rfl) ?_
    intro p9 e9 s m9 a9 below meth c9 ls hx hb hr hml hlocks hown hts hP hK hl
    have hS : va_S nA s.heap s.heap [] := va_S.rf
    have hl : lv_has ls 6 [(0, .ref qr), (1, .int (-1)), (2, .int (nI lv)), (3, .int (nI best))] := hl
    refine lv_iload_n hx hb dX0_searchLeaving_0 rfl (lv_at hl 2 rfl) ?_
    refine ro_S (As := [.int (nI lv)]) (rest := []) ⟨hx, hb, hml, hown, hts⟩ (c_J6_bitCount_0f7a4 l lv hlv) (va_cwS 1 hts gX0_searchLeaving_J6_bitCount_0f7a4 rfl rfl rfl (by decide +kernel) ⟨by show 0 + 1 ≤ 0 + 1; omega, by show 8 + (1 + 11) + 0 ≤ 40 * (0) + 40; omega⟩) hP hS rfl hl.1 rfl (Nat.le_of_ble_eq_true rfl) dX0_searchLeaving_1 ⟨Nat.le_of_ble_eq_true rfl, Nat.le_of_ble_eq_true rfl⟩ (fun r H locs hr9 hP hS => ?_)
    subst hr9
    refine lv_iload_n hx hb dX0_searchLeaving_4 rfl (lv_at hl 3 rfl) ?_
    refine ro_S (As := [.int (nI best)]) (rest := [.int (nI (pcn lv))]) ⟨hx, hb, hml, hown, hts⟩ (c_J6_bitCount_0f7a4 l best hbest) (va_cwS 1 hts gX0_searchLeaving_J6_bitCount_0f7a4 rfl rfl rfl (by decide +kernel) ⟨by show 0 + 1 ≤ 0 + 1; omega, by show 8 + (1 + 11) + 0 ≤ 40 * (0) + 40; omega⟩) hP hS rfl hl.1 rfl (Nat.le_of_ble_eq_true rfl) dX0_searchLeaving_5 ⟨Nat.le_of_ble_eq_true rfl, Nat.le_of_ble_eq_true rfl⟩ (fun r H locs hr9 hP hS => ?_)
    subst hr9
    refine lv_icmp_lt (x := (nI (pcn lv))) (y := (nI (pcn best))) (tgt := 13) hx hb dX0_searchLeaving_8 (by decide) (fun c_8 => ?_) (fun c_8 => ?_)
    · have c_8 : pcn lv < pcn best := (nI_ltI (by have := pcn_le lv; omega) (by have := pcn_le best; omega)).mp c_8
      refine lv_iload_n hx hb dX0_searchLeaving_13 rfl (lv_at hl 1 rfl) ?_
      refine lv_if_lt (x := (-1)) (tgt := 23) hx hb dX0_searchLeaving_14 (by decide) (fun _ => ?_) (fun k => absurd (by decide) k)
      refine lv_iload_n hx hb dX0_searchLeaving_23 rfl (lv_at hl 2 rfl) ?_
      exact W.iret hx hb hr (fun t ht hW => ⟨⟨_, (), rfl, (by show (nI lv) = nI (srch rows 0 lv best); first | (simp only [srch, eq_true c_8, reduceIte]; done) | (simp [srch, eq_true c_8]; done)), trivial⟩, hS.F ht⟩) hS.2.2 dX0_searchLeaving_24
    · have c_8 : ¬ pcn lv < pcn best := fun j => c_8 ((nI_ltI (by have := pcn_le lv; omega) (by have := pcn_le best; omega)).mpr j)
      refine lv_iload_n hx hb dX0_searchLeaving_11 rfl (lv_at hl 3 rfl) ?_
      exact W.iret hx hb hr (fun t ht hW => ⟨⟨_, (), rfl, (by show (nI best) = nI (srch rows 0 lv best); first | (simp only [srch, eq_false c_8, reduceIte]; done) | (simp [srch, eq_false c_8]; done)), trivial⟩, hS.F ht⟩) hS.2.2 dX0_searchLeaving_12
  | succ k ih =>
    intro lv best hR hk hlv hbest
    have hk16 : k < 16 := hk
    have hRk := hR k (Nat.lt_succ_self k)
    have hRp : ∀ j, j < k → R j = nI (rows j) ∧ rows j < 65536 := fun j hj => hR j (Nat.lt_succ_of_lt hj)
    have h2k : 2 ^ k < 65536 := Nat.pow_lt_pow_right (a := 2) (by decide) hk16
    refine ro_of (own := RX0) (cc := cX0_searchLeaving) (maxL := 6) (ret := (some .int)) (by decide) rfl rfl (Nat.le_of_ble_eq_true rfl) ?_
    intro p9 e9 s m9 a9 below meth c9 ls hx hb hr hml hlocks hown hts hP hK hl
    have hS : va_S nA s.heap s.heap [] := va_S.rf
    have hl : lv_has ls 6 [(0, .ref qr), (1, .int (nI k)), (2, .int (nI lv)), (3, .int (nI best))] := hl
    refine lv_iload_n hx hb dX0_searchLeaving_0 rfl (lv_at hl 2 rfl) ?_
    refine ro_S (As := [.int (nI lv)]) (rest := []) ⟨hx, hb, hml, hown, hts⟩ (c_J6_bitCount_0f7a4 l lv hlv) (va_cwS 1 hts gX0_searchLeaving_J6_bitCount_0f7a4 rfl rfl rfl (by decide +kernel) ⟨by show 0 + 1 ≤ k + 1 + 1; omega, by show 8 + (1 + 11) + 0 ≤ 40 * (k + 1) + 40; omega⟩) hP hS rfl hl.1 rfl (Nat.le_of_ble_eq_true rfl) dX0_searchLeaving_1 ⟨Nat.le_of_ble_eq_true rfl, Nat.le_of_ble_eq_true rfl⟩ (fun r H locs hr9 hP hS => ?_)
    subst hr9
    refine lv_iload_n hx hb dX0_searchLeaving_4 rfl (lv_at hl 3 rfl) ?_
    refine ro_S (As := [.int (nI best)]) (rest := [.int (nI (pcn lv))]) ⟨hx, hb, hml, hown, hts⟩ (c_J6_bitCount_0f7a4 l best hbest) (va_cwS 1 hts gX0_searchLeaving_J6_bitCount_0f7a4 rfl rfl rfl (by decide +kernel) ⟨by show 0 + 1 ≤ k + 1 + 1; omega, by show 8 + (1 + 11) + 0 ≤ 40 * (k + 1) + 40; omega⟩) hP hS rfl hl.1 rfl (Nat.le_of_ble_eq_true rfl) dX0_searchLeaving_5 ⟨Nat.le_of_ble_eq_true rfl, Nat.le_of_ble_eq_true rfl⟩ (fun r H locs hr9 hP hS => ?_)
    subst hr9
    refine lv_icmp_lt (x := (nI (pcn lv))) (y := (nI (pcn best))) (tgt := 13) hx hb dX0_searchLeaving_8 (by decide) (fun c_8 => ?_) (fun c_8 => ?_)
    · have c_8 : pcn lv < pcn best := (nI_ltI (by have := pcn_le lv; omega) (by have := pcn_le best; omega)).mp c_8
      refine lv_iload_n hx hb dX0_searchLeaving_13 rfl (lv_at hl 1 rfl) ?_
      refine lv_if_lt (x := (nI k)) (tgt := 23) hx hb dX0_searchLeaving_14 (by decide) (fun c_14 => absurd c_14 (nI_pos (show k < 2 ^ 31 by omega))) (fun c_14 => ?_)
      refine lv_iload_n hx hb dX0_searchLeaving_17 rfl (lv_at hl 1 rfl) ?_
      refine lv_aload_n hx hb dX0_searchLeaving_18 rfl (lv_at hl 0 rfl) ?_
      refine va_alen hx hb hK hP 0 0 rfl rfl (v := 16) rfl dX0_searchLeaving_19 ?_
      refine lv_icmp_lt (x := (nI k)) (y := 16) (tgt := 25) hx hb dX0_searchLeaving_20 (by decide) (fun c_20 => ?_) (fun c_20 => absurd (show nI k < 16 from nI_lt (b := 16) hk16 (by decide)) c_20)
      refine lv_iconst (v := 1) hx hb dX0_searchLeaving_25 (by decide) ?_
      refine lv_iload_n hx hb dX0_searchLeaving_26 rfl (lv_at hl 1 rfl) ?_
      refine lv_ishl hx hb (x := (1 : Int32)) (y := (nI k)) dX0_searchLeaving_27 ?_
      rw [sh_16 k hk16]
      refine lv_istore (lv' := [(4, .int (nI (2 ^ k))), (0, .ref qr), (1, .int (nI k)), (2, .int (nI lv)), (3, .int (nI best))]) hx hb dX0_searchLeaving_28 hl (by decide) rfl (fun ls hl => ?_)
      refine lv_iload_n hx hb dX0_searchLeaving_30 rfl (lv_at hl 3 rfl) ?_
      refine lv_iload hx hb dX0_searchLeaving_31 (lv_at hl 0 rfl) ?_
      refine lv_iand hx hb (x := (nI lv)) (y := (nI (2 ^ k))) dX0_searchLeaving_33 ?_
      rw [nI_and]
      refine lv_if_eq (x := (nI (lv &&& 2 ^ k))) (tgt := 47) hx hb dX0_searchLeaving_34 (by decide) (fun c_34 => ?_) (fun c_34 => ?_)
      · have c_34 : lv &&& 2 ^ k = 0 := (nI_eq (b := 0) (by have : lv &&& 2 ^ k ≤ lv := Nat.and_le_left; omega) (by decide)).mp c_34
        refine lv_aload_n hx hb dX0_searchLeaving_47 rfl (lv_at hl 1 rfl) ?_
        refine lv_iload_n hx hb dX0_searchLeaving_48 rfl (lv_at hl 2 rfl) ?_
        refine lv_iconst (v := 1) hx hb dX0_searchLeaving_49 (by decide) ?_
        refine lv_isub hx hb (x := (nI k)) (y := 1) dX0_searchLeaving_50 ?_
        rw [gI_pred k]
        refine lv_iload_n hx hb dX0_searchLeaving_51 rfl (lv_at hl 3 rfl) ?_
        refine lv_aload_n hx hb dX0_searchLeaving_52 rfl (lv_at hl 1 rfl) ?_
        refine lv_iload_n hx hb dX0_searchLeaving_53 rfl (lv_at hl 2 rfl) ?_
        refine xiald hx hb hK hP 0 0 rfl rfl (g := k) (hk16) (by decide) dX0_searchLeaving_54 ?_
        refine lv_ior hx hb (x := (nI lv)) (y := (R k)) dX0_searchLeaving_55 ?_
        rw [hRk.1, nI_or]
        refine lv_iload_n hx hb dX0_searchLeaving_56 rfl (lv_at hl 4 rfl) ?_
        refine ro_SW (As := [.ref qr, .int (gI k), .int (nI (lv ||| rows k)), .int (nI best)]) (rest := []) ⟨hx, hb, hml, hown, hts⟩ (ih (lv ||| rows k) best hRp (by omega) (or_16 hlv hRk.2) hbest) (va_cwS 4 hts gX0_searchLeaving_X0_searchLeaving rfl rfl rfl (by decide +kernel) ⟨by show k + 1 + 1 ≤ k + 1 + 1; omega, by show 8 + (6 + 11) + (40 * k + 40) ≤ 40 * (k + 1) + 40; omega⟩) hK hP hP hS rfl hl.1 rfl (Nat.le_of_ble_eq_true rfl) dX0_searchLeaving_57 ⟨Nat.zero_le _, Nat.zero_le _⟩ (fun r H locs hr9 hP hS => ?_)
        subst hr9
        refine lv_istore (lv' := [(5, .int (nI (srch rows k (lv ||| rows k) best))), (4, .int (nI (2 ^ k))), (0, .ref qr), (1, .int (nI k)), (2, .int (nI lv)), (3, .int (nI best))]) hx hb dX0_searchLeaving_60 hl (by decide) rfl (fun ls hl => ?_)
        refine lv_aload_n hx hb dX0_searchLeaving_62 rfl (lv_at hl 2 rfl) ?_
        refine lv_iload_n hx hb dX0_searchLeaving_63 rfl (lv_at hl 3 rfl) ?_
        refine xiald hx hb hK hP 0 0 rfl rfl (g := k) (hk16) (by decide) dX0_searchLeaving_64 ?_
        refine lv_iload_n hx hb dX0_searchLeaving_65 rfl (lv_at hl 4 rfl) ?_
        refine lv_iconst (v := (-1)) hx hb dX0_searchLeaving_66 (by decide) ?_
        refine lv_ixor hx hb (x := (nI lv)) (y := (-1)) dX0_searchLeaving_67 ?_
        refine lv_iand hx hb (x := (R k)) (y := ((nI lv) ^^^ (-1))) dX0_searchLeaving_68 ?_
        refine lv_if_ne (x := ((R k) &&& ((nI lv) ^^^ (-1)))) (tgt := 75) hx hb dX0_searchLeaving_69 (by decide) (fun c_69 => ?_) (fun c_69 => ?_)
        · have c_69 : ¬ rows k &&& (65535 ^^^ lv) = 0 := fun j => c_69 (by rw [hRk.1]; exact (xor_m1 hlv _ hRk.2).mpr j)
          refine lv_aload_n hx hb dX0_searchLeaving_75 rfl (lv_at hl 2 rfl) ?_
          refine lv_iload_n hx hb dX0_searchLeaving_76 rfl (lv_at hl 3 rfl) ?_
          refine lv_iconst (v := 1) hx hb dX0_searchLeaving_77 (by decide) ?_
          refine lv_isub hx hb (x := (nI k)) (y := 1) dX0_searchLeaving_78 ?_
          rw [gI_pred k]
          refine lv_iload_n hx hb dX0_searchLeaving_79 rfl (lv_at hl 4 rfl) ?_
          refine lv_iload hx hb dX0_searchLeaving_80 (lv_at hl 1 rfl) ?_
          refine lv_ior hx hb (x := (nI lv)) (y := (nI (2 ^ k))) dX0_searchLeaving_82 ?_
          rw [nI_or]
          refine lv_iload hx hb dX0_searchLeaving_83 (lv_at hl 0 rfl) ?_
          refine ro_SW (As := [.ref qr, .int (gI k), .int (nI (lv ||| 2 ^ k)), .int (nI (srch rows k (lv ||| rows k) best))]) (rest := []) ⟨hx, hb, hml, hown, hts⟩ (ih (lv ||| 2 ^ k) (srch rows k (lv ||| rows k) best) hRp (by omega) (or_16 hlv h2k) (srch_lt k _ _ (fun j hj => (hRp j hj).2) (by omega) (or_16 hlv hRk.2) hbest)) (va_cwS 4 hts gX0_searchLeaving_X0_searchLeaving rfl rfl rfl (by decide +kernel) ⟨by show k + 1 + 1 ≤ k + 1 + 1; omega, by show 8 + (6 + 11) + (40 * k + 40) ≤ 40 * (k + 1) + 40; omega⟩) hK hP hP hS rfl hl.1 rfl (Nat.le_of_ble_eq_true rfl) dX0_searchLeaving_85 ⟨Nat.zero_le _, Nat.zero_le _⟩ (fun r H locs hr9 hP hS => ?_)
          subst hr9
          exact W.iret hx hb hr (fun t ht hW => ⟨⟨_, (), rfl, (by show (nI (srch rows k (lv ||| 2 ^ k) (srch rows k (lv ||| rows k) best))) = nI (srch rows (k + 1) lv best); first | (simp only [srch, eq_true c_8, eq_true c_34, eq_false c_69, reduceIte]; done) | (simp [srch, eq_true c_8, eq_true c_34, eq_false c_69]; done)), trivial⟩, hS.F ht⟩) hS.2.2 dX0_searchLeaving_88
        · have c_69 : rows k &&& (65535 ^^^ lv) = 0 := (xor_m1 hlv _ hRk.2).mp (by rw [← hRk.1]; exact c_69)
          refine lv_iload hx hb dX0_searchLeaving_72 (lv_at hl 0 rfl) ?_
          exact W.iret hx hb hr (fun t ht hW => ⟨⟨_, (), rfl, (by show (nI (srch rows k (lv ||| rows k) best)) = nI (srch rows (k + 1) lv best); first | (simp only [srch, eq_true c_8, eq_true c_34, eq_true c_69, reduceIte]; done) | (simp [srch, eq_true c_8, eq_true c_34, eq_true c_69]; done)), trivial⟩, hS.F ht⟩) hS.2.2 dX0_searchLeaving_74
      · have c_34 : ¬ lv &&& 2 ^ k = 0 := fun j => c_34 (by rw [j]; rfl)
        refine lv_aload_n hx hb dX0_searchLeaving_37 rfl (lv_at hl 1 rfl) ?_
        refine lv_iload_n hx hb dX0_searchLeaving_38 rfl (lv_at hl 2 rfl) ?_
        refine lv_iconst (v := 1) hx hb dX0_searchLeaving_39 (by decide) ?_
        refine lv_isub hx hb (x := (nI k)) (y := 1) dX0_searchLeaving_40 ?_
        rw [gI_pred k]
        refine lv_iload_n hx hb dX0_searchLeaving_41 rfl (lv_at hl 3 rfl) ?_
        refine lv_iload_n hx hb dX0_searchLeaving_42 rfl (lv_at hl 4 rfl) ?_
        refine ro_SW (As := [.ref qr, .int (gI k), .int (nI lv), .int (nI best)]) (rest := []) ⟨hx, hb, hml, hown, hts⟩ (ih lv best hRp (by omega) hlv hbest) (va_cwS 4 hts gX0_searchLeaving_X0_searchLeaving rfl rfl rfl (by decide +kernel) ⟨by show k + 1 + 1 ≤ k + 1 + 1; omega, by show 8 + (6 + 11) + (40 * k + 40) ≤ 40 * (k + 1) + 40; omega⟩) hK hP hP hS rfl hl.1 rfl (Nat.le_of_ble_eq_true rfl) dX0_searchLeaving_43 ⟨Nat.zero_le _, Nat.zero_le _⟩ (fun r H locs hr9 hP hS => ?_)
        subst hr9
        exact W.iret hx hb hr (fun t ht hW => ⟨⟨_, (), rfl, (by show (nI (srch rows k lv best)) = nI (srch rows (k + 1) lv best); first | (simp only [srch, eq_true c_8, eq_false c_34, reduceIte]; done) | (simp [srch, eq_true c_8, eq_false c_34]; done)), trivial⟩, hS.F ht⟩) hS.2.2 dX0_searchLeaving_46
    · have c_8 : ¬ pcn lv < pcn best := fun j => c_8 ((nI_ltI (by have := pcn_le lv; omega) (by have := pcn_le best; omega)).mpr j)
      refine lv_iload_n hx hb dX0_searchLeaving_11 rfl (lv_at hl 3 rfl) ?_
      exact W.iret hx hb hr (fun t ht hW => ⟨⟨_, (), rfl, (by show (nI best) = nI (srch rows (k + 1) lv best); first | (simp only [srch, eq_false c_8, reduceIte]; done) | (simp [srch, eq_false c_8]; done)), trivial⟩, hS.F ht⟩) hS.2.2 dX0_searchLeaving_12
set_option maxHeartbeats 4000000 in
set_option maxRecDepth 100000 in
theorem c_X0_leastLeaving (l : Launch) (D : va_G) (q : Nat → Nat) (F : Nat → Nat → Int32) (n : Nat) (R : Nat → Int32) (cI cZ : ClassId) (sz : Nat) (hw : WF F n) : Met l yX0_leastLeaving wsX0_leastLeaving ({ frames := 18, cells := 0, slots := 0, locals := 800 }) (va_Pc [.ref (q 9)] (wS D (wX q F (nI n) R cI cZ) (tIZ cI cZ) sz)) (va_Qi (fun (r : Int32) (u : Nat → Int32) => r = nI (sLeast F n)) (wB D (va_A (wX q F (nI n) R cI cZ) sz) (fun (u : Nat → Int32) => wX q F (nI n) u cI cZ)) (va_A (wX q F (nI n) R cI cZ) sz)) 0 0 (va_A (wX q F (nI n) R cI cZ) sz) := by
  refine wr_of (own := RX0) (cc := cX0_leastLeaving) (maxL := 4) (ret := (some .int)) (by decide) rfl rfl (Nat.le_of_ble_eq_true rfl) ?_
  intro p9 e9 s m9 a9 below meth c9 ls A hx hb hr hml hlocks hown hts hP hK hD hA hl
  have hin : ∀ w ∈ wsX00, w ∈ wsX0_leastLeaving := by decide +kernel
  have f32 := hts (.fieldLink RX0 32 "DangerousGoods" "places" "[I") (by decide +kernel)
  have f35 := hts (.fieldLink RX0 35 "DangerousGoods" "count" "I") (by decide +kernel)
  have f39 := hts (.fieldLink RX0 39 "DangerousGoods" "breachRows" "[I") (by decide +kernel)
  have hS : va_S A s.heap s.heap [] := va_S.rf
  have hl : lv_has ls 4 [(0, .ref (q 9))] := hl
  refine lv_iconst (v := 0) hx hb dX0_leastLeaving_0 (by decide) ?_
  refine lv_istore_n (lv' := [(1, .int 0), (0, .ref (q 9))]) hx hb dX0_leastLeaving_1 rfl hl (by decide) rfl (fun ls hl => ?_)
  refine lv_iconst (v := 0) hx hb dX0_leastLeaving_2 (by decide) ?_
  refine lv_istore_n (lv' := [(2, .int 0), (1, .int 0), (0, .ref (q 9))]) hx hb dX0_leastLeaving_3 rfl hl (by decide) rfl (fun ls hl => ?_)
  refine lv_iconst (v := 0) hx hb dX0_leastLeaving_4 (by decide) ?_
  refine lv_istore_n (lv' := [(3, .int 0), (2, .int 0), (1, .int 0), (0, .ref (q 9))]) hx hb dX0_leastLeaving_5 rfl hl (by decide) rfl (fun ls hl => ?_)
  have L6 : ∀ (d9 : Nat) (k : Nat) (Rv : Nat → Int32) (H : Heap) (locs : List Loc) (ls : Array Slot), n - k < d9 → (k ≤ n) → (∀ j, j < k → Rv j = nI (sAt F n j (F 7 j))) → va_P D vwCl (wX q F (nI n) Rv cI cZ) H → va_D A (wX q F (nI n) Rv cI cZ) → va_S A s.heap H locs → lv_has ls 4 [(3, .int (nI k)), (1, .int (nI (bs (fun k => if F 7 k = -1 then false else true) k))), (2, .int (nI (bs (fun k => sMis F k (F 7 k)) k))), (0, .ref (q 9))] → W p9 l e9 ({ frames := 18, cells := 0, slots := 0, locals := 800 }) s m9 a9 below meth c9 H locs 0 0 (MQ below (va_Qi (fun (r : Int32) (u : Nat → Int32) => r = nI (sLeast F n)) (wB D A (fun (u : Nat → Int32) => wX q F (nI n) u cI cZ)) A) a9 s 0 0 A) (F0 m9 6 ls []) := by
    intro d9
    induction d9 with
    | zero => intro k Rv H locs ls h9; exact absurd h9 (Nat.not_lt_zero _)
    | succ d9 ih6 =>
      intro k Rv H locs ls hd6 hk hA9 hP hD hS hl
      refine lv_iload_n hx hb dX0_leastLeaving_6 rfl (lv_at hl 0 rfl) ?_
      refine lv_aload_n hx hb dX0_leastLeaving_7 rfl (lv_at hl 3 rfl) ?_
      refine va_get (D := D) (ci := 0) (v := .int (nI n)) hx hb hts hin hown hK hP 0 rfl rfl 8 (by decide) f35 (fun _ h9 => h9) rfl dX0_leastLeaving_8 ?_
      refine lv_icmp_ge (x := (nI k)) (y := (nI n)) (tgt := 73) hx hb dX0_leastLeaving_11 (by decide) (fun c_11 => ?_) (fun c_11 => ?_)
      · have hk11 : k = n := Nat.le_antisymm hk (nI_ge_of c_11 (by have := hw.n; omega) (by have := hw.n; omega))
        refine lv_aload_n hx hb dX0_leastLeaving_73 rfl (lv_at hl 3 rfl) ?_
        refine va_get (D := D) (ci := 0) (v := .ref (q 8)) hx hb hts hin hown hK hP 0 rfl rfl 9 (by decide) f39 (fun _ h9 => h9) rfl dX0_leastLeaving_74 ?_
        refine lv_aload_n hx hb dX0_leastLeaving_77 rfl (lv_at hl 3 rfl) ?_
        refine va_get (D := D) (ci := 0) (v := .int (nI n)) hx hb hts hin hown hK hP 0 rfl rfl 8 (by decide) f35 (fun _ h9 => h9) rfl dX0_leastLeaving_78 ?_
        refine lv_iconst (v := 1) hx hb dX0_leastLeaving_81 (by decide) ?_
        refine lv_isub hx hb (x := (nI n)) (y := 1) dX0_leastLeaving_82 ?_
        rw [gI_pred n]
        refine lv_iload_n hx hb dX0_leastLeaving_83 rfl (lv_at hl 2 rfl) ?_
        refine lv_iload_n hx hb dX0_leastLeaving_84 rfl (lv_at hl 1 rfl) ?_
        refine ro_SW (As := [.ref (q 8), .int (gI n), .int (nI (bs (fun k => sMis F k (F 7 k)) k)), .int (nI (bs (fun k => if F 7 k = -1 then false else true) k))]) (rest := []) ⟨hx, hb, hml, hown, hts⟩ (c_X0_searchLeaving l D (q 8) Rv cI (fun j => sAt F n j (F 7 j)) n (bs (fun k => sMis F k (F 7 k)) k) (bs (fun k => if F 7 k = -1 then false else true) k) (fun j hj => ⟨hA9 j (by omega), bs_16 hw.n⟩) hw.n (bs_16 (Nat.le_trans hk hw.n)) (bs_16 (Nat.le_trans hk hw.n))) (va_cwS 4 hts gX0_leastLeaving_X0_searchLeaving rfl rfl rfl (by decide +kernel) ⟨by show n + 1 + 1 ≤ 18; have := hw.n; omega, by show 8 + (6 + 11) + (40 * n + 40) ≤ 800; have := hw.n; omega⟩) (hK.sub [0] rfl) hP (hP.sub [9] rfl) hS rfl hl.1 rfl (Nat.le_of_ble_eq_true rfl) dX0_leastLeaving_85 ⟨Nat.zero_le _, Nat.zero_le _⟩ (fun r H locs hr9 hP hS => ?_)
        subst hr9
        exact W.iret hx hb hr (fun t ht hW => ⟨⟨_, Rv, rfl, (by show (nI (srch (fun j => sAt F n j (F 7 j)) n (bs (fun k => sMis F k (F 7 k)) k) (bs (fun k => if F 7 k = -1 then false else true) k))) = nI (sLeast F n); rw [hk11]; rfl), by rw [ht]; exact hP, hD⟩, hS.F ht⟩) hS.2.2 dX0_leastLeaving_88
      · have hk11 : k < n := nI_lt_of c_11 (by have := hw.n; omega)
        refine lv_aload_n hx hb dX0_leastLeaving_14 rfl (lv_at hl 3 rfl) ?_
        refine va_get (D := D) (ci := 0) (v := .ref (q 8)) hx hb hts hin hown hK hP 0 rfl rfl 9 (by decide) f39 (fun _ h9 => h9) rfl dX0_leastLeaving_15 ?_
        refine lv_iload_n hx hb dX0_leastLeaving_18 rfl (lv_at hl 0 rfl) ?_
        refine lv_aload_n hx hb dX0_leastLeaving_19 rfl (lv_at hl 3 rfl) ?_
        refine lv_iload_n hx hb dX0_leastLeaving_20 rfl (lv_at hl 0 rfl) ?_
        refine lv_aload_n hx hb dX0_leastLeaving_21 rfl (lv_at hl 3 rfl) ?_
        refine va_get (D := D) (ci := 0) (v := .ref (q 7)) hx hb hts hin hown hK hP 0 rfl rfl 7 (by decide) f32 (fun _ h9 => h9) rfl dX0_leastLeaving_22 ?_
        refine lv_iload_n hx hb dX0_leastLeaving_25 rfl (lv_at hl 0 rfl) ?_
        refine xiald hx hb hK hP 8 0 rfl rfl (g := k) (hw.g hk11) (by decide) dX0_leastLeaving_26 ?_
        refine ro_V (As := [.int (nI k), .int (F 7 k)]) (rest := [.int (nI k), .ref (q 8)]) ⟨hx, hb, hml, hown, hts⟩ (c_X0_breachesAt l D q F n Rv cI cZ k (F 7 k) hw hk11) (cwV 2 hts gX0_leastLeaving_X0_breachesAt rfl rfl rfl (by decide +kernel) ⟨Nat.le_of_ble_eq_true rfl, Nat.le_of_ble_eq_true rfl⟩) hK hP hP (va_recv hK hP (ci := 0) (q0 := 0) rfl rfl) hS rfl hl.1 rfl (Nat.le_of_ble_eq_true rfl) dX0_leastLeaving_27 ⟨Nat.le_of_ble_eq_true rfl, Nat.le_of_ble_eq_true rfl⟩ (fun r H locs hr9 hP hS => ?_)
        subst hr9
        refine xiast hx hb hK hP hD hS 9 0 rfl rfl (g := k) (x := (nI (sAt F n k (F 7 k)))) (hw.g hk11) (by decide) dX0_leastLeaving_30 (fun H locs hP hD hS => ?_)
        have hP : va_P D vwCl (wX q F (nI n) (upd (Rv) k (nI (sAt F n k (F 7 k)))) cI cZ) H := hP
        have hD : va_D A (wX q F (nI n) (upd (Rv) k (nI (sAt F n k (F 7 k)))) cI cZ) := hD
        refine lv_aload_n hx hb dX0_leastLeaving_31 rfl (lv_at hl 3 rfl) ?_
        refine va_get (D := D) (ci := 0) (v := .ref (q 7)) hx hb hts hin hown hK hP 0 rfl rfl 7 (by decide) f32 (fun _ h9 => h9) rfl dX0_leastLeaving_32 ?_
        refine lv_iload_n hx hb dX0_leastLeaving_35 rfl (lv_at hl 0 rfl) ?_
        refine xiald hx hb hK hP 8 0 rfl rfl (g := k) (hw.g hk11) (by decide) dX0_leastLeaving_36 ?_
        refine lv_iconst (v := (-1)) hx hb dX0_leastLeaving_37 (by decide) ?_
        refine lv_icmp_eq (x := (F 7 k)) (y := (-1)) (tgt := 47) hx hb dX0_leastLeaving_38 (by decide) (fun c_38 => ?_) (fun c_38 => ?_)
        · skip
          refine lv_aload_n hx hb dX0_leastLeaving_47 rfl (lv_at hl 3 rfl) ?_
          refine lv_iload_n hx hb dX0_leastLeaving_48 rfl (lv_at hl 0 rfl) ?_
          refine lv_aload_n hx hb dX0_leastLeaving_49 rfl (lv_at hl 3 rfl) ?_
          refine va_get (D := D) (ci := 0) (v := .ref (q 7)) hx hb hts hin hown hK hP 0 rfl rfl 7 (by decide) f32 (fun _ h9 => h9) rfl dX0_leastLeaving_50 ?_
          refine lv_iload_n hx hb dX0_leastLeaving_53 rfl (lv_at hl 0 rfl) ?_
          refine xiald hx hb hK hP 8 0 rfl rfl (g := k) (hw.g hk11) (by decide) dX0_leastLeaving_54 ?_
          refine ro_V (As := [.int (nI k), .int (F 7 k)]) (rest := []) ⟨hx, hb, hml, hown, hts⟩ (c_X0_wouldBeMisplaced l D q F n (upd (Rv) k (nI (sAt F n k (F 7 k)))) cI cZ k (F 7 k) hw hk11 (hw.p7 hk11)) (cwV 2 hts gX0_leastLeaving_X0_wouldBeMisplaced rfl rfl rfl (by decide +kernel) ⟨Nat.le_of_ble_eq_true rfl, Nat.le_of_ble_eq_true rfl⟩) hK hP hP (va_recv hK hP (ci := 0) (q0 := 0) rfl rfl) hS rfl hl.1 rfl (Nat.le_of_ble_eq_true rfl) dX0_leastLeaving_55 ⟨Nat.le_of_ble_eq_true rfl, Nat.le_of_ble_eq_true rfl⟩ (fun r H locs hr9 hP hS => ?_)
          subst hr9
          refine lv_if_eq (x := (bi (sMis F k (F 7 k)))) (tgt := 67) hx hb dX0_leastLeaving_58 (by decide) (fun c_58 => ?_) (fun c_58 => ?_)
          · have c_58 := bi_e0.mp c_58
            refine lv_iinc (v := (nI (k + 1))) (lv' := [(3, .int (nI (k + 1))), (1, .int (nI (bs (fun k => if F 7 k = -1 then false else true) k))), (2, .int (nI (bs (fun k => sMis F k (F 7 k)) k))), (0, .ref (q 9))]) hx hb dX0_leastLeaving_67 hl (k := 0) rfl (nI_1 k) (by decide) rfl (fun ls hl => ?_)
            refine lv_goto (tgt := 6) hx hb dX0_leastLeaving_70 (by decide) ?_
            have e1 : (nI (bs (fun k => if F 7 k = -1 then false else true) k)) = nI (bs (fun k => if F 7 k = -1 then false else true) (k + 1)) := bs_f (by simp [eq_true c_38, c_58])
            rw [e1] at hl
            have e2 : (nI (bs (fun k => sMis F k (F 7 k)) k)) = nI (bs (fun k => sMis F k (F 7 k)) (k + 1)) := bs_f (by simp [eq_true c_38, c_58])
            rw [e2] at hl
            exact ih6 (k + 1) (upd (Rv) k (nI (sAt F n k (F 7 k)))) _ _ _ (by omega) (by omega) (rw_s hA9) hP hD hS (lv_sub hl [0, 1, 2, 3] rfl)
          · have c_58 := bi_n0.mp c_58
            refine lv_iload_n hx hb dX0_leastLeaving_61 rfl (lv_at hl 2 rfl) ?_
            refine lv_iconst (v := 1) hx hb dX0_leastLeaving_62 (by decide) ?_
            refine lv_iload_n hx hb dX0_leastLeaving_63 rfl (lv_at hl 0 rfl) ?_
            refine lv_ishl hx hb (x := (1 : Int32)) (y := (nI k)) dX0_leastLeaving_64 ?_
            refine lv_ior hx hb (x := (nI (bs (fun k => sMis F k (F 7 k)) k))) (y := ((1 : Int32) <<< ((nI k) &&& 31))) dX0_leastLeaving_65 ?_
            refine lv_istore_n (lv' := [(2, .int ((nI (bs (fun k => sMis F k (F 7 k)) k)) ||| ((1 : Int32) <<< ((nI k) &&& 31)))), (3, .int (nI k)), (1, .int (nI (bs (fun k => if F 7 k = -1 then false else true) k))), (0, .ref (q 9))]) hx hb dX0_leastLeaving_66 rfl hl (by decide) rfl (fun ls hl => ?_)
            refine lv_iinc (v := (nI (k + 1))) (lv' := [(3, .int (nI (k + 1))), (2, .int ((nI (bs (fun k => sMis F k (F 7 k)) k)) ||| ((1 : Int32) <<< ((nI k) &&& 31)))), (1, .int (nI (bs (fun k => if F 7 k = -1 then false else true) k))), (0, .ref (q 9))]) hx hb dX0_leastLeaving_67 hl (k := 1) rfl (nI_1 k) (by decide) rfl (fun ls hl => ?_)
            refine lv_goto (tgt := 6) hx hb dX0_leastLeaving_70 (by decide) ?_
            have e1 : (nI (bs (fun k => if F 7 k = -1 then false else true) k)) = nI (bs (fun k => if F 7 k = -1 then false else true) (k + 1)) := bs_f (by simp [eq_true c_38, c_58])
            rw [e1] at hl
            have e2 : ((nI (bs (fun k => sMis F k (F 7 k)) k)) ||| ((1 : Int32) <<< ((nI k) &&& 31))) = nI (bs (fun k => sMis F k (F 7 k)) (k + 1)) := bs_t (by have := hw.n; omega) (by simp [eq_true c_38, c_58])
            rw [e2] at hl
            exact ih6 (k + 1) (upd (Rv) k (nI (sAt F n k (F 7 k)))) _ _ _ (by omega) (by omega) (rw_s hA9) hP hD hS (lv_sub hl [0, 2, 1, 3] rfl)
        · skip
          refine lv_iload_n hx hb dX0_leastLeaving_41 rfl (lv_at hl 1 rfl) ?_
          refine lv_iconst (v := 1) hx hb dX0_leastLeaving_42 (by decide) ?_
          refine lv_iload_n hx hb dX0_leastLeaving_43 rfl (lv_at hl 0 rfl) ?_
          refine lv_ishl hx hb (x := (1 : Int32)) (y := (nI k)) dX0_leastLeaving_44 ?_
          refine lv_ior hx hb (x := (nI (bs (fun k => if F 7 k = -1 then false else true) k))) (y := ((1 : Int32) <<< ((nI k) &&& 31))) dX0_leastLeaving_45 ?_
          refine lv_istore_n (lv' := [(1, .int ((nI (bs (fun k => if F 7 k = -1 then false else true) k)) ||| ((1 : Int32) <<< ((nI k) &&& 31)))), (3, .int (nI k)), (2, .int (nI (bs (fun k => sMis F k (F 7 k)) k))), (0, .ref (q 9))]) hx hb dX0_leastLeaving_46 rfl hl (by decide) rfl (fun ls hl => ?_)
          refine lv_aload_n hx hb dX0_leastLeaving_47 rfl (lv_at hl 3 rfl) ?_
          refine lv_iload_n hx hb dX0_leastLeaving_48 rfl (lv_at hl 1 rfl) ?_
          refine lv_aload_n hx hb dX0_leastLeaving_49 rfl (lv_at hl 3 rfl) ?_
          refine va_get (D := D) (ci := 0) (v := .ref (q 7)) hx hb hts hin hown hK hP 0 rfl rfl 7 (by decide) f32 (fun _ h9 => h9) rfl dX0_leastLeaving_50 ?_
          refine lv_iload_n hx hb dX0_leastLeaving_53 rfl (lv_at hl 1 rfl) ?_
          refine xiald hx hb hK hP 8 0 rfl rfl (g := k) (hw.g hk11) (by decide) dX0_leastLeaving_54 ?_
          refine ro_V (As := [.int (nI k), .int (F 7 k)]) (rest := []) ⟨hx, hb, hml, hown, hts⟩ (c_X0_wouldBeMisplaced l D q F n (upd (Rv) k (nI (sAt F n k (F 7 k)))) cI cZ k (F 7 k) hw hk11 (hw.p7 hk11)) (cwV 2 hts gX0_leastLeaving_X0_wouldBeMisplaced rfl rfl rfl (by decide +kernel) ⟨Nat.le_of_ble_eq_true rfl, Nat.le_of_ble_eq_true rfl⟩) hK hP hP (va_recv hK hP (ci := 0) (q0 := 0) rfl rfl) hS rfl hl.1 rfl (Nat.le_of_ble_eq_true rfl) dX0_leastLeaving_55 ⟨Nat.le_of_ble_eq_true rfl, Nat.le_of_ble_eq_true rfl⟩ (fun r H locs hr9 hP hS => ?_)
          subst hr9
          refine lv_if_eq (x := (bi (sMis F k (F 7 k)))) (tgt := 67) hx hb dX0_leastLeaving_58 (by decide) (fun c_58 => ?_) (fun c_58 => ?_)
          · have c_58 := bi_e0.mp c_58
            refine lv_iinc (v := (nI (k + 1))) (lv' := [(3, .int (nI (k + 1))), (1, .int ((nI (bs (fun k => if F 7 k = -1 then false else true) k)) ||| ((1 : Int32) <<< ((nI k) &&& 31)))), (2, .int (nI (bs (fun k => sMis F k (F 7 k)) k))), (0, .ref (q 9))]) hx hb dX0_leastLeaving_67 hl (k := 1) rfl (nI_1 k) (by decide) rfl (fun ls hl => ?_)
            refine lv_goto (tgt := 6) hx hb dX0_leastLeaving_70 (by decide) ?_
            have e1 : ((nI (bs (fun k => if F 7 k = -1 then false else true) k)) ||| ((1 : Int32) <<< ((nI k) &&& 31))) = nI (bs (fun k => if F 7 k = -1 then false else true) (k + 1)) := bs_t (by have := hw.n; omega) (by simp [eq_false c_38, c_58])
            rw [e1] at hl
            have e2 : (nI (bs (fun k => sMis F k (F 7 k)) k)) = nI (bs (fun k => sMis F k (F 7 k)) (k + 1)) := bs_f (by simp [eq_false c_38, c_58])
            rw [e2] at hl
            exact ih6 (k + 1) (upd (Rv) k (nI (sAt F n k (F 7 k)))) _ _ _ (by omega) (by omega) (rw_s hA9) hP hD hS (lv_sub hl [0, 1, 2, 3] rfl)
          · have c_58 := bi_n0.mp c_58
            refine lv_iload_n hx hb dX0_leastLeaving_61 rfl (lv_at hl 2 rfl) ?_
            refine lv_iconst (v := 1) hx hb dX0_leastLeaving_62 (by decide) ?_
            refine lv_iload_n hx hb dX0_leastLeaving_63 rfl (lv_at hl 1 rfl) ?_
            refine lv_ishl hx hb (x := (1 : Int32)) (y := (nI k)) dX0_leastLeaving_64 ?_
            refine lv_ior hx hb (x := (nI (bs (fun k => sMis F k (F 7 k)) k))) (y := ((1 : Int32) <<< ((nI k) &&& 31))) dX0_leastLeaving_65 ?_
            refine lv_istore_n (lv' := [(2, .int ((nI (bs (fun k => sMis F k (F 7 k)) k)) ||| ((1 : Int32) <<< ((nI k) &&& 31)))), (1, .int ((nI (bs (fun k => if F 7 k = -1 then false else true) k)) ||| ((1 : Int32) <<< ((nI k) &&& 31)))), (3, .int (nI k)), (0, .ref (q 9))]) hx hb dX0_leastLeaving_66 rfl hl (by decide) rfl (fun ls hl => ?_)
            refine lv_iinc (v := (nI (k + 1))) (lv' := [(3, .int (nI (k + 1))), (2, .int ((nI (bs (fun k => sMis F k (F 7 k)) k)) ||| ((1 : Int32) <<< ((nI k) &&& 31)))), (1, .int ((nI (bs (fun k => if F 7 k = -1 then false else true) k)) ||| ((1 : Int32) <<< ((nI k) &&& 31)))), (0, .ref (q 9))]) hx hb dX0_leastLeaving_67 hl (k := 2) rfl (nI_1 k) (by decide) rfl (fun ls hl => ?_)
            refine lv_goto (tgt := 6) hx hb dX0_leastLeaving_70 (by decide) ?_
            have e1 : ((nI (bs (fun k => if F 7 k = -1 then false else true) k)) ||| ((1 : Int32) <<< ((nI k) &&& 31))) = nI (bs (fun k => if F 7 k = -1 then false else true) (k + 1)) := bs_t (by have := hw.n; omega) (by simp [eq_false c_38, c_58])
            rw [e1] at hl
            have e2 : ((nI (bs (fun k => sMis F k (F 7 k)) k)) ||| ((1 : Int32) <<< ((nI k) &&& 31))) = nI (bs (fun k => sMis F k (F 7 k)) (k + 1)) := bs_t (by have := hw.n; omega) (by simp [eq_false c_38, c_58])
            rw [e2] at hl
            exact ih6 (k + 1) (upd (Rv) k (nI (sAt F n k (F 7 k)))) _ _ _ (by omega) (by omega) (rw_s hA9) hP hD hS (lv_sub hl [0, 2, 1, 3] rfl)
  exact L6 _ 0 R _ _ _ (Nat.lt_succ_self _) (Nat.zero_le _) (fun j hj => absurd hj (Nat.not_lt_zero _)) hP hD hS (lv_sub hl [0, 2, 1, 3] rfl)
set_option maxHeartbeats 4000000 in
set_option maxRecDepth 100000 in
theorem c_X0_leaving (l : Launch) (D : va_G) (q : Nat → Nat) (F : Nat → Nat → Int32) (n : Nat) (R : Nat → Int32) (cI cZ : ClassId) (sz : Nat) (hw : WF F n) : Met l yX0_leaving wsX0_leaving ({ frames := 19, cells := 0, slots := 0, locals := 823 }) (va_Pc [.ref (q 9)] (wS D (wX q F (nI n) R cI cZ) (tIZ cI cZ) sz)) (va_Qi (fun (r : Int32) (u : Nat → Int32) => r = nI (sLeast F n)) (wB D (va_A (wX q F (nI n) R cI cZ) sz) (fun (u : Nat → Int32) => wX q F (nI n) u cI cZ)) (va_A (wX q F (nI n) R cI cZ) sz)) 0 0 (va_A (wX q F (nI n) R cI cZ) sz) := by
  refine wr_of (own := RX0) (cc := cX0_leaving) (maxL := 1) (ret := (some .int)) (by decide) rfl rfl (Nat.le_of_ble_eq_true rfl) ?_
  intro p9 e9 s m9 a9 below meth c9 ls A hx hb hr hml hlocks hown hts hP hK hD hA hl
  have hS : va_S A s.heap s.heap [] := va_S.rf
  have hl : lv_has ls 1 [(0, .ref (q 9))] := hl
  refine lv_aload_n hx hb dX0_leaving_0 rfl (lv_at hl 0 rfl) ?_
  refine wr_V (As := []) (rest := []) (wr := []) ⟨hx, hb, hml, hown, hts⟩ (c_X0_leastLeaving l D q F n R cI cZ _ hw) (cwV 0 hts gX0_leaving_X0_leastLeaving rfl rfl rfl (by decide +kernel) ⟨Nat.le_of_ble_eq_true rfl, Nat.le_of_ble_eq_true rfl⟩) hK hP hD hA [0, 1, 2, 3, 4, 5, 6, 7, 8, 9] [] rfl rfl (by decide) rfl (by decide) (by decide) (va_recv hK hP (ci := 0) (q0 := 0) rfl rfl) hS rfl hl.1 rfl (Nat.le_of_ble_eq_true rfl) dX0_leaving_1 ⟨Nat.le_of_ble_eq_true rfl, Nat.le_of_ble_eq_true rfl⟩ (fun r9 u9 H locs h_1 hP hD hS => ?_)
  have hP : va_P D vwCl (wX q F (nI n) u9 cI cZ) H := hP
  have hD : va_D A (wX q F (nI n) u9 cI cZ) := hD
  exact W.iret hx hb hr (fun t ht hW => ⟨⟨_, u9, rfl, (by show r9 = nI (sLeast F n); exact h_1), by rw [ht]; exact hP, hD⟩, hS.F ht⟩) hS.2.2 dX0_leaving_4
set_option maxHeartbeats 4000000 in
set_option maxRecDepth 100000 in
theorem c_X0_fewest (l : Launch) (D : va_G) (q : Nat → Nat) (F : Nat → Nat → Int32) (n : Nat) (R : Nat → Int32) (cI cZ : ClassId) (sz : Nat) (hw : WF F n) : Met l yX0_fewest wsX0_fewest ({ frames := 19, cells := 0, slots := 0, locals := 823 }) (va_Pc [.ref (q 9)] (wS D (wX q F (nI n) R cI cZ) (tIZ cI cZ) sz)) (va_Qi (fun (r : Int32) (u : Nat → Int32) => r = nI (pcn (sLeast F n))) (wB D (va_A (wX q F (nI n) R cI cZ) sz) (fun (u : Nat → Int32) => wX q F (nI n) u cI cZ)) (va_A (wX q F (nI n) R cI cZ) sz)) 0 0 (va_A (wX q F (nI n) R cI cZ) sz) := by
  refine wr_of (own := RX0) (cc := cX0_fewest) (maxL := 1) (ret := (some .int)) (by decide) rfl rfl (Nat.le_of_ble_eq_true rfl) ?_
  intro p9 e9 s m9 a9 below meth c9 ls A hx hb hr hml hlocks hown hts hP hK hD hA hl
  have hS : va_S A s.heap s.heap [] := va_S.rf
  have hl : lv_has ls 1 [(0, .ref (q 9))] := hl
  refine lv_aload_n hx hb dX0_fewest_0 rfl (lv_at hl 0 rfl) ?_
  refine wr_V (As := []) (rest := []) (wr := []) ⟨hx, hb, hml, hown, hts⟩ (c_X0_leastLeaving l D q F n R cI cZ _ hw) (cwV 0 hts gX0_fewest_X0_leastLeaving rfl rfl rfl (by decide +kernel) ⟨Nat.le_of_ble_eq_true rfl, Nat.le_of_ble_eq_true rfl⟩) hK hP hD hA [0, 1, 2, 3, 4, 5, 6, 7, 8, 9] [] rfl rfl (by decide) rfl (by decide) (by decide) (va_recv hK hP (ci := 0) (q0 := 0) rfl rfl) hS rfl hl.1 rfl (Nat.le_of_ble_eq_true rfl) dX0_fewest_1 ⟨Nat.le_of_ble_eq_true rfl, Nat.le_of_ble_eq_true rfl⟩ (fun r9 u9 H locs h_1 hP hD hS => ?_)
  have hP : va_P D vwCl (wX q F (nI n) u9 cI cZ) H := hP
  have hD : va_D A (wX q F (nI n) u9 cI cZ) := hD
  subst h_1
  refine ro_S (As := [.int (nI (sLeast F n))]) (rest := []) ⟨hx, hb, hml, hown, hts⟩ (c_J6_bitCount_0f7a4 l (sLeast F n) (sLeast_lt hw.n)) (va_cwS 1 hts gX0_fewest_J6_bitCount_0f7a4 rfl rfl rfl (by decide +kernel) ⟨Nat.le_of_ble_eq_true rfl, Nat.le_of_ble_eq_true rfl⟩) hP hS rfl hl.1 rfl (Nat.le_of_ble_eq_true rfl) dX0_fewest_4 ⟨Nat.le_of_ble_eq_true rfl, Nat.le_of_ble_eq_true rfl⟩ (fun r H locs hr9 hP hS => ?_)
  subst hr9
  exact W.iret hx hb hr (fun t ht hW => ⟨⟨_, u9, rfl, (by show (nI (pcn (sLeast F n))) = nI (pcn (sLeast F n)); rfl), by rw [ht]; exact hP, hD⟩, hS.F ht⟩) hS.2.2 dX0_fewest_7

/-! the reference: its reading methods -/
set_option maxHeartbeats 4000000 in
set_option maxRecDepth 100000 in
theorem c_X1_isIn (l : Launch) (v : Int32) (lo : Int32) (hi : Int32) : Met l yX1_isIn wsX1_isIn ({ frames := 0, cells := 0, slots := 0, locals := 0 }) (va_Pc [.int v, .int lo, .int hi] (fun _ => True)) (RO (fun r => r = bi (mIn v lo hi))) 0 0 nA := by
  refine ro_ofS (own := RX1) (cc := cX1_isIn) (maxL := 3) (ret := (some .boolean)) (by decide) rfl rfl (Nat.le_of_ble_eq_true rfl) ?_
  intro p9 e9 s m9 a9 below meth c9 ls hx hb hr hml hlocks hown hts hP hl
  have hS : va_S nA s.heap s.heap [] := va_S.rf
  have hl : lv_has ls 3 [(0, .int v), (1, .int lo), (2, .int hi)] := hl
  refine lv_iload_n hx hb dX1_isIn_0 rfl (lv_at hl 0 rfl) ?_
  refine lv_iload_n hx hb dX1_isIn_1 rfl (lv_at hl 1 rfl) ?_
  refine lv_icmp_lt (x := v) (y := lo) (tgt := 14) hx hb dX1_isIn_2 (by decide) (fun c_2 => ?_) (fun c_2 => ?_)
  · skip
    refine lv_iconst (v := 0) hx hb dX1_isIn_14 (by decide) ?_
    exact W.zret hx hb hr zn0 (fun t ht hW => ⟨⟨_, (), rfl, (by show 0 = bi (mIn v lo hi); first | (simp only [bi, mIn, eq_true c_2, reduceIte, Bool.false_eq_true, Bool.true_eq_false]; done) | (simp [bi, mIn, eq_true c_2]; done)), trivial⟩, hS.F ht⟩) hS.2.2 dX1_isIn_15
  · skip
    refine lv_iload_n hx hb dX1_isIn_5 rfl (lv_at hl 0 rfl) ?_
    refine lv_iload_n hx hb dX1_isIn_6 rfl (lv_at hl 2 rfl) ?_
    refine lv_icmp_gt (x := v) (y := hi) (tgt := 14) hx hb dX1_isIn_7 (by decide) (fun c_7 => ?_) (fun c_7 => ?_)
    · skip
      refine lv_iconst (v := 0) hx hb dX1_isIn_14 (by decide) ?_
      exact W.zret hx hb hr zn0 (fun t ht hW => ⟨⟨_, (), rfl, (by show 0 = bi (mIn v lo hi); first | (simp only [bi, mIn, eq_false c_2, eq_true c_7, reduceIte, Bool.false_eq_true, Bool.true_eq_false]; done) | (simp [bi, mIn, eq_false c_2, eq_true c_7]; done)), trivial⟩, hS.F ht⟩) hS.2.2 dX1_isIn_15
    · skip
      refine lv_iconst (v := 1) hx hb dX1_isIn_10 (by decide) ?_
      refine lv_goto (tgt := 15) hx hb dX1_isIn_11 (by decide) ?_
      exact W.zret hx hb hr zn1 (fun t ht hW => ⟨⟨_, (), rfl, (by show 1 = bi (mIn v lo hi); first | (simp only [bi, mIn, eq_false c_2, eq_false c_7, reduceIte, Bool.false_eq_true, Bool.true_eq_false]; done) | (simp [bi, mIn, eq_false c_2, eq_false c_7]; done)), trivial⟩, hS.F ht⟩) hS.2.2 dX1_isIn_15
set_option maxHeartbeats 4000000 in
set_option maxRecDepth 100000 in
theorem c_X1_isClass (l : Launch) (v : Int32) : Met l yX1_isClass wsX1_isClass ({ frames := 1, cells := 0, slots := 0, locals := 22 }) (va_Pc [.int v] (fun _ => True)) (RO (fun r => r = bi (mIn v 1 9))) 0 0 nA := by
  refine ro_ofS (own := RX1) (cc := cX1_isClass) (maxL := 1) (ret := (some .boolean)) (by decide) rfl rfl (Nat.le_of_ble_eq_true rfl) ?_
  intro p9 e9 s m9 a9 below meth c9 ls hx hb hr hml hlocks hown hts hP hl
  have hS : va_S nA s.heap s.heap [] := va_S.rf
  have hl : lv_has ls 1 [(0, .int v)] := hl
  refine lv_iload_n hx hb dX1_isClass_0 rfl (lv_at hl 0 rfl) ?_
  refine lv_iconst (v := 1) hx hb dX1_isClass_1 (by decide) ?_
  refine lv_bipush (v := 9) hx hb dX1_isClass_2 (by decide) ?_
  refine ro_S (As := [.int v, .int 1, .int 9]) (rest := []) ⟨hx, hb, hml, hown, hts⟩ (c_X1_isIn l v 1 9) (va_cwS 3 hts gX1_isClass_X1_isIn rfl rfl rfl (by decide +kernel) ⟨Nat.le_of_ble_eq_true rfl, Nat.le_of_ble_eq_true rfl⟩) hP hS rfl hl.1 rfl (Nat.le_of_ble_eq_true rfl) dX1_isClass_4 ⟨Nat.le_of_ble_eq_true rfl, Nat.le_of_ble_eq_true rfl⟩ (fun r H locs hr9 hP hS => ?_)
  subst hr9
  exact W.zret hx hb hr (bi_nar _) (fun t ht hW => ⟨⟨_, (), rfl, rfl, trivial⟩, hS.F ht⟩) hS.2.2 dX1_isClass_7
set_option maxHeartbeats 4000000 in
set_option maxRecDepth 100000 in
theorem c_X1_isPlace (l : Launch) (v : Int32) : Met l yX1_isPlace wsX1_isPlace ({ frames := 1, cells := 0, slots := 0, locals := 22 }) (va_Pc [.int v] (fun _ => True)) (RO (fun r => r = bi (mIn v 0 47))) 0 0 nA := by
  refine ro_ofS (own := RX1) (cc := cX1_isPlace) (maxL := 1) (ret := (some .boolean)) (by decide) rfl rfl (Nat.le_of_ble_eq_true rfl) ?_
  intro p9 e9 s m9 a9 below meth c9 ls hx hb hr hml hlocks hown hts hP hl
  have hS : va_S nA s.heap s.heap [] := va_S.rf
  have hl : lv_has ls 1 [(0, .int v)] := hl
  refine lv_iload_n hx hb dX1_isPlace_0 rfl (lv_at hl 0 rfl) ?_
  refine lv_iconst (v := 0) hx hb dX1_isPlace_1 (by decide) ?_
  refine lv_bipush (v := 47) hx hb dX1_isPlace_2 (by decide) ?_
  refine ro_S (As := [.int v, .int 0, .int 47]) (rest := []) ⟨hx, hb, hml, hown, hts⟩ (c_X1_isIn l v 0 47) (va_cwS 3 hts gX1_isPlace_X1_isIn rfl rfl rfl (by decide +kernel) ⟨Nat.le_of_ble_eq_true rfl, Nat.le_of_ble_eq_true rfl⟩) hP hS rfl hl.1 rfl (Nat.le_of_ble_eq_true rfl) dX1_isPlace_4 ⟨Nat.le_of_ble_eq_true rfl, Nat.le_of_ble_eq_true rfl⟩ (fun r H locs hr9 hP hS => ?_)
  subst hr9
  exact W.zret hx hb hr (bi_nar _) (fun t ht hW => ⟨⟨_, (), rfl, rfl, trivial⟩, hS.F ht⟩) hS.2.2 dX1_isPlace_7
set_option maxHeartbeats 4000000 in
set_option maxRecDepth 100000 in
theorem c_X1_areGoods (l : Launch) (D : va_G) (q : Nat → Nat) (F : Nat → Nat → Int32) (n : Nat) (R : Nat → Int32) (th : Int32) (cI cZ : ClassId) (v : Int32) : Met l yX1_areGoods wsX1_areGoods ({ frames := 1, cells := 0, slots := 0, locals := 22 }) (va_Pc [.ref (q 9), .int v] (rW D (wM q F (nI n) R th cI cZ) (tIZ cI cZ))) (RO (fun r => r = bi (mIn v 0 (nI n - 1)))) 0 0 nA := by
  refine ro_of (own := RX1) (cc := cX1_areGoods) (maxL := 2) (ret := (some .boolean)) (by decide) rfl rfl (Nat.le_of_ble_eq_true rfl) ?_
  intro p9 e9 s m9 a9 below meth c9 ls hx hb hr hml hlocks hown hts hP hK hl
  have hin : ∀ w ∈ wsX10, w ∈ wsX1_areGoods := by decide +kernel
  have f46 := hts (.fieldLink RX1 46 "DangerousGoodsModel" "goods" "I") (by decide +kernel)
  have hS : va_S nA s.heap s.heap [] := va_S.rf
  have hl : lv_has ls 2 [(0, .ref (q 9)), (1, .int v)] := hl
  refine lv_iload_n hx hb dX1_areGoods_0 rfl (lv_at hl 1 rfl) ?_
  refine lv_iconst (v := 0) hx hb dX1_areGoods_1 (by decide) ?_
  refine lv_aload_n hx hb dX1_areGoods_2 rfl (lv_at hl 0 rfl) ?_
  refine va_get (D := D) (ci := 1) (v := .int (nI n)) hx hb hts hin hown hK hP 0 rfl rfl 4 (by decide) f46 (fun _ h9 => h9) rfl dX1_areGoods_3 ?_
  refine lv_iconst (v := 1) hx hb dX1_areGoods_6 (by decide) ?_
  refine lv_isub hx hb (x := (nI n)) (y := 1) dX1_areGoods_7 ?_
  refine ro_S (As := [.int v, .int 0, .int ((nI n) - 1)]) (rest := []) ⟨hx, hb, hml, hown, hts⟩ (c_X1_isIn l v 0 ((nI n) - 1)) (va_cwS 3 hts gX1_areGoods_X1_isIn rfl rfl rfl (by decide +kernel) ⟨Nat.le_of_ble_eq_true rfl, Nat.le_of_ble_eq_true rfl⟩) hP hS rfl hl.1 rfl (Nat.le_of_ble_eq_true rfl) dX1_areGoods_8 ⟨Nat.le_of_ble_eq_true rfl, Nat.le_of_ble_eq_true rfl⟩ (fun r H locs hr9 hP hS => ?_)
  subst hr9
  exact W.zret hx hb hr (bi_nar _) (fun t ht hW => ⟨⟨_, (), rfl, rfl, trivial⟩, hS.F ht⟩) hS.2.2 dX1_areGoods_11
set_option maxHeartbeats 4000000 in
set_option maxRecDepth 100000 in
theorem c_X1_apart (l : Launch) (a : Int32) (b : Int32) : Met l yX1_apart wsX1_apart ({ frames := 0, cells := 0, slots := 0, locals := 0 }) (va_Pc [.int a, .int b] (fun _ => True)) (RO (fun r => r = mApart a b)) 0 0 nA := by
  refine ro_ofS (own := RX1) (cc := cX1_apart) (maxL := 6) (ret := (some .int)) (by decide) rfl rfl (Nat.le_of_ble_eq_true rfl) ?_
  intro p9 e9 s m9 a9 below meth c9 ls hx hb hr hml hlocks hown hts hP hl
  have hS : va_S nA s.heap s.heap [] := va_S.rf
  have hl : lv_has ls 6 [(0, .int a), (1, .int b)] := hl
  refine lv_iload_n hx hb dX1_apart_0 rfl (lv_at hl 0 rfl) ?_
  refine lv_bipush (v := 12) hx hb dX1_apart_1 (by decide) ?_
  refine lv_idiv hx hb (x := a) (y := 12) dX1_apart_3 (by decide) ?_
  refine lv_iload_n hx hb dX1_apart_4 rfl (lv_at hl 1 rfl) ?_
  refine lv_bipush (v := 12) hx hb dX1_apart_5 (by decide) ?_
  refine lv_idiv hx hb (x := b) (y := 12) dX1_apart_7 (by decide) ?_
  refine lv_isub hx hb (x := (a / 12)) (y := (b / 12)) dX1_apart_8 ?_
  refine lv_istore_n (lv' := [(2, .int ((a / 12) - (b / 12))), (0, .int a), (1, .int b)]) hx hb dX1_apart_9 rfl hl (by decide) rfl (fun ls hl => ?_)
  refine lv_iload_n hx hb dX1_apart_10 rfl (lv_at hl 1 rfl) ?_
  refine lv_iconst (v := 2) hx hb dX1_apart_11 (by decide) ?_
  refine lv_idiv hx hb (x := a) (y := 2) dX1_apart_12 (by decide) ?_
  refine lv_bipush (v := 6) hx hb dX1_apart_13 (by decide) ?_
  refine lv_irem hx hb (x := (a / 2)) (y := 6) dX1_apart_15 (by decide) ?_
  refine lv_iload_n hx hb dX1_apart_16 rfl (lv_at hl 2 rfl) ?_
  refine lv_iconst (v := 2) hx hb dX1_apart_17 (by decide) ?_
  refine lv_idiv hx hb (x := b) (y := 2) dX1_apart_18 (by decide) ?_
  refine lv_bipush (v := 6) hx hb dX1_apart_19 (by decide) ?_
  refine lv_irem hx hb (x := (b / 2)) (y := 6) dX1_apart_21 (by decide) ?_
  refine lv_isub hx hb (x := ((a / 2) - (a / 2) / 6 * 6)) (y := ((b / 2) - (b / 2) / 6 * 6)) dX1_apart_22 ?_
  refine lv_istore_n (lv' := [(3, .int (((a / 2) - (a / 2) / 6 * 6) - ((b / 2) - (b / 2) / 6 * 6))), (2, .int ((a / 12) - (b / 12))), (0, .int a), (1, .int b)]) hx hb dX1_apart_23 rfl hl (by decide) rfl (fun ls hl => ?_)
  refine lv_iload_n hx hb dX1_apart_24 rfl (lv_at hl 0 rfl) ?_
  refine lv_if_ge (x := (((a / 2) - (a / 2) / 6 * 6) - ((b / 2) - (b / 2) / 6 * 6))) (tgt := 33) hx hb dX1_apart_25 (by decide) (fun c_25 => ?_) (fun c_25 => ?_)
  · skip
    refine lv_iload_n hx hb dX1_apart_33 rfl (lv_at hl 0 rfl) ?_
    refine lv_istore (lv' := [(4, .int (((a / 2) - (a / 2) / 6 * 6) - ((b / 2) - (b / 2) / 6 * 6))), (3, .int (((a / 2) - (a / 2) / 6 * 6) - ((b / 2) - (b / 2) / 6 * 6))), (2, .int ((a / 12) - (b / 12))), (0, .int a), (1, .int b)]) hx hb dX1_apart_34 hl (by decide) rfl (fun ls hl => ?_)
    refine lv_iload hx hb dX1_apart_36 (lv_at hl 0 rfl) ?_
    refine lv_iconst (v := 2) hx hb dX1_apart_38 (by decide) ?_
    refine lv_icmp_gt (x := (((a / 2) - (a / 2) / 6 * 6) - ((b / 2) - (b / 2) / 6 * 6))) (y := 2) (tgt := 56) hx hb dX1_apart_39 (by decide) (fun c_39 => ?_) (fun c_39 => ?_)
    · skip
      refine lv_iconst (v := 1) hx hb dX1_apart_56 (by decide) ?_
      refine lv_goto (tgt := 61) hx hb dX1_apart_57 (by decide) ?_
      refine lv_istore (lv' := [(5, .int 1), (4, .int (((a / 2) - (a / 2) / 6 * 6) - ((b / 2) - (b / 2) / 6 * 6))), (3, .int (((a / 2) - (a / 2) / 6 * 6) - ((b / 2) - (b / 2) / 6 * 6))), (2, .int ((a / 12) - (b / 12))), (0, .int a), (1, .int b)]) hx hb dX1_apart_61 hl (by decide) rfl (fun ls hl => ?_)
      refine lv_iload_n hx hb dX1_apart_63 rfl (lv_at hl 3 rfl) ?_
      refine lv_iconst (v := 1) hx hb dX1_apart_64 (by decide) ?_
      refine lv_icmp_gt (x := ((a / 12) - (b / 12))) (y := 1) (tgt := 73) hx hb dX1_apart_65 (by decide) (fun c_65 => ?_) (fun c_65 => ?_)
      · skip
        refine lv_iconst (v := 4) hx hb dX1_apart_73 (by decide) ?_
        refine lv_goto (tgt := 104) hx hb dX1_apart_74 (by decide) ?_
        exact W.iret hx hb hr (fun t ht hW => ⟨⟨_, (), rfl, (by show 4 = mApart a b; first | (simp only [mApart, mIsFar, mFar, mB, sDeck, eq_true c_25, eq_true c_39, eq_true c_65, reduceIte, Bool.false_eq_true, Bool.true_eq_false]; done) | (simp [mApart, mIsFar, mFar, mB, sDeck, eq_true c_25, eq_true c_39, eq_true c_65]; done)), trivial⟩, hS.F ht⟩) hS.2.2 dX1_apart_104
      · skip
        refine lv_iload_n hx hb dX1_apart_68 rfl (lv_at hl 3 rfl) ?_
        refine lv_iconst (v := (-1)) hx hb dX1_apart_69 (by decide) ?_
        refine lv_icmp_ge (x := ((a / 12) - (b / 12))) (y := (-1)) (tgt := 77) hx hb dX1_apart_70 (by decide) (fun c_70 => ?_) (fun c_70 => ?_)
        · skip
          refine lv_iload_n hx hb dX1_apart_77 rfl (lv_at hl 3 rfl) ?_
          refine lv_if_eq (x := ((a / 12) - (b / 12))) (tgt := 85) hx hb dX1_apart_78 (by decide) (fun c_78 => ?_) (fun c_78 => ?_)
          · skip
            refine lv_iload hx hb dX1_apart_85 (lv_at hl 0 rfl) ?_
            refine lv_if_eq (x := 1) (tgt := 94) hx hb dX1_apart_87 (by decide) (fun k => absurd k (by decide)) (fun _ => ?_)
            refine lv_iconst (v := 2) hx hb dX1_apart_90 (by decide) ?_
            refine lv_goto (tgt := 104) hx hb dX1_apart_91 (by decide) ?_
            exact W.iret hx hb hr (fun t ht hW => ⟨⟨_, (), rfl, (by show 2 = mApart a b; first | (simp only [mApart, mIsFar, mFar, mB, sDeck, eq_true c_25, eq_true c_39, eq_false c_65, eq_true c_70, eq_true c_78, reduceIte, Bool.false_eq_true, Bool.true_eq_false]; done) | (simp [mApart, mIsFar, mFar, mB, sDeck, eq_true c_25, eq_true c_39, eq_false c_65, eq_true c_70, eq_true c_78]; done)), trivial⟩, hS.F ht⟩) hS.2.2 dX1_apart_104
          · skip
            refine lv_iconst (v := 3) hx hb dX1_apart_81 (by decide) ?_
            refine lv_goto (tgt := 104) hx hb dX1_apart_82 (by decide) ?_
            exact W.iret hx hb hr (fun t ht hW => ⟨⟨_, (), rfl, (by show 3 = mApart a b; first | (simp only [mApart, mIsFar, mFar, mB, sDeck, eq_true c_25, eq_true c_39, eq_false c_65, eq_true c_70, eq_false c_78, reduceIte, Bool.false_eq_true, Bool.true_eq_false]; done) | (simp [mApart, mIsFar, mFar, mB, sDeck, eq_true c_25, eq_true c_39, eq_false c_65, eq_true c_70, eq_false c_78]; done)), trivial⟩, hS.F ht⟩) hS.2.2 dX1_apart_104
        · skip
          refine lv_iconst (v := 4) hx hb dX1_apart_73 (by decide) ?_
          refine lv_goto (tgt := 104) hx hb dX1_apart_74 (by decide) ?_
          exact W.iret hx hb hr (fun t ht hW => ⟨⟨_, (), rfl, (by show 4 = mApart a b; first | (simp only [mApart, mIsFar, mFar, mB, sDeck, eq_true c_25, eq_true c_39, eq_false c_65, eq_false c_70, reduceIte, Bool.false_eq_true, Bool.true_eq_false]; done) | (simp [mApart, mIsFar, mFar, mB, sDeck, eq_true c_25, eq_true c_39, eq_false c_65, eq_false c_70]; done)), trivial⟩, hS.F ht⟩) hS.2.2 dX1_apart_104
    · skip
      refine lv_iload hx hb dX1_apart_42 (lv_at hl 0 rfl) ?_
      refine lv_if_le (x := (((a / 2) - (a / 2) / 6 * 6) - ((b / 2) - (b / 2) / 6 * 6))) (tgt := 60) hx hb dX1_apart_44 (by decide) (fun c_44 => ?_) (fun c_44 => ?_)
      · skip
        refine lv_iconst (v := 0) hx hb dX1_apart_60 (by decide) ?_
        refine lv_istore (lv' := [(5, .int 0), (4, .int (((a / 2) - (a / 2) / 6 * 6) - ((b / 2) - (b / 2) / 6 * 6))), (3, .int (((a / 2) - (a / 2) / 6 * 6) - ((b / 2) - (b / 2) / 6 * 6))), (2, .int ((a / 12) - (b / 12))), (0, .int a), (1, .int b)]) hx hb dX1_apart_61 hl (by decide) rfl (fun ls hl => ?_)
        refine lv_iload_n hx hb dX1_apart_63 rfl (lv_at hl 3 rfl) ?_
        refine lv_iconst (v := 1) hx hb dX1_apart_64 (by decide) ?_
        refine lv_icmp_gt (x := ((a / 12) - (b / 12))) (y := 1) (tgt := 73) hx hb dX1_apart_65 (by decide) (fun c_65 => ?_) (fun c_65 => ?_)
        · skip
          refine lv_iconst (v := 4) hx hb dX1_apart_73 (by decide) ?_
          refine lv_goto (tgt := 104) hx hb dX1_apart_74 (by decide) ?_
          exact W.iret hx hb hr (fun t ht hW => ⟨⟨_, (), rfl, (by show 4 = mApart a b; first | (simp only [mApart, mIsFar, mFar, mB, sDeck, eq_true c_25, eq_false c_39, eq_true c_44, eq_true c_65, reduceIte, Bool.false_eq_true, Bool.true_eq_false]; done) | (simp [mApart, mIsFar, mFar, mB, sDeck, eq_true c_25, eq_false c_39, eq_true c_44, eq_true c_65]; done)), trivial⟩, hS.F ht⟩) hS.2.2 dX1_apart_104
        · skip
          refine lv_iload_n hx hb dX1_apart_68 rfl (lv_at hl 3 rfl) ?_
          refine lv_iconst (v := (-1)) hx hb dX1_apart_69 (by decide) ?_
          refine lv_icmp_ge (x := ((a / 12) - (b / 12))) (y := (-1)) (tgt := 77) hx hb dX1_apart_70 (by decide) (fun c_70 => ?_) (fun c_70 => ?_)
          · skip
            refine lv_iload_n hx hb dX1_apart_77 rfl (lv_at hl 3 rfl) ?_
            refine lv_if_eq (x := ((a / 12) - (b / 12))) (tgt := 85) hx hb dX1_apart_78 (by decide) (fun c_78 => ?_) (fun c_78 => ?_)
            · skip
              refine lv_iload hx hb dX1_apart_85 (lv_at hl 0 rfl) ?_
              refine lv_if_eq (x := 0) (tgt := 94) hx hb dX1_apart_87 (by decide) (fun _ => ?_) (fun k => absurd (by decide) k)
              refine lv_iload_n hx hb dX1_apart_94 rfl (lv_at hl 4 rfl) ?_
              refine lv_iload_n hx hb dX1_apart_95 rfl (lv_at hl 5 rfl) ?_
              refine lv_icmp_eq (x := a) (y := b) (tgt := 103) hx hb dX1_apart_96 (by decide) (fun c_96 => ?_) (fun c_96 => ?_)
              · skip
                refine lv_iconst (v := 0) hx hb dX1_apart_103 (by decide) ?_
                exact W.iret hx hb hr (fun t ht hW => ⟨⟨_, (), rfl, (by show 0 = mApart a b; first | (simp only [mApart, mIsFar, mFar, mB, sDeck, eq_true c_25, eq_false c_39, eq_true c_44, eq_false c_65, eq_true c_70, eq_true c_78, eq_true c_96, reduceIte, Bool.false_eq_true, Bool.true_eq_false]; done) | (simp [mApart, mIsFar, mFar, mB, sDeck, eq_true c_25, eq_false c_39, eq_true c_44, eq_false c_65, eq_true c_70, eq_true c_78, eq_true c_96]; done)), trivial⟩, hS.F ht⟩) hS.2.2 dX1_apart_104
              · skip
                refine lv_iconst (v := 1) hx hb dX1_apart_99 (by decide) ?_
                refine lv_goto (tgt := 104) hx hb dX1_apart_100 (by decide) ?_
                exact W.iret hx hb hr (fun t ht hW => ⟨⟨_, (), rfl, (by show 1 = mApart a b; first | (simp only [mApart, mIsFar, mFar, mB, sDeck, eq_true c_25, eq_false c_39, eq_true c_44, eq_false c_65, eq_true c_70, eq_true c_78, eq_false c_96, reduceIte, Bool.false_eq_true, Bool.true_eq_false]; done) | (simp [mApart, mIsFar, mFar, mB, sDeck, eq_true c_25, eq_false c_39, eq_true c_44, eq_false c_65, eq_true c_70, eq_true c_78, eq_false c_96]; done)), trivial⟩, hS.F ht⟩) hS.2.2 dX1_apart_104
            · skip
              refine lv_iconst (v := 3) hx hb dX1_apart_81 (by decide) ?_
              refine lv_goto (tgt := 104) hx hb dX1_apart_82 (by decide) ?_
              exact W.iret hx hb hr (fun t ht hW => ⟨⟨_, (), rfl, (by show 3 = mApart a b; first | (simp only [mApart, mIsFar, mFar, mB, sDeck, eq_true c_25, eq_false c_39, eq_true c_44, eq_false c_65, eq_true c_70, eq_false c_78, reduceIte, Bool.false_eq_true, Bool.true_eq_false]; done) | (simp [mApart, mIsFar, mFar, mB, sDeck, eq_true c_25, eq_false c_39, eq_true c_44, eq_false c_65, eq_true c_70, eq_false c_78]; done)), trivial⟩, hS.F ht⟩) hS.2.2 dX1_apart_104
          · skip
            refine lv_iconst (v := 4) hx hb dX1_apart_73 (by decide) ?_
            refine lv_goto (tgt := 104) hx hb dX1_apart_74 (by decide) ?_
            exact W.iret hx hb hr (fun t ht hW => ⟨⟨_, (), rfl, (by show 4 = mApart a b; first | (simp only [mApart, mIsFar, mFar, mB, sDeck, eq_true c_25, eq_false c_39, eq_true c_44, eq_false c_65, eq_false c_70, reduceIte, Bool.false_eq_true, Bool.true_eq_false]; done) | (simp [mApart, mIsFar, mFar, mB, sDeck, eq_true c_25, eq_false c_39, eq_true c_44, eq_false c_65, eq_false c_70]; done)), trivial⟩, hS.F ht⟩) hS.2.2 dX1_apart_104
      · skip
        refine lv_iload_n hx hb dX1_apart_47 rfl (lv_at hl 3 rfl) ?_
        refine lv_iconst (v := 2) hx hb dX1_apart_48 (by decide) ?_
        refine lv_irem hx hb (x := a) (y := 2) dX1_apart_49 (by decide) ?_
        refine lv_iload_n hx hb dX1_apart_50 rfl (lv_at hl 4 rfl) ?_
        refine lv_iconst (v := 2) hx hb dX1_apart_51 (by decide) ?_
        refine lv_irem hx hb (x := b) (y := 2) dX1_apart_52 (by decide) ?_
        refine lv_icmp_eq (x := (a - a / 2 * 2)) (y := (b - b / 2 * 2)) (tgt := 60) hx hb dX1_apart_53 (by decide) (fun c_53 => ?_) (fun c_53 => ?_)
        · skip
          refine lv_iconst (v := 0) hx hb dX1_apart_60 (by decide) ?_
          refine lv_istore (lv' := [(5, .int 0), (4, .int (((a / 2) - (a / 2) / 6 * 6) - ((b / 2) - (b / 2) / 6 * 6))), (3, .int (((a / 2) - (a / 2) / 6 * 6) - ((b / 2) - (b / 2) / 6 * 6))), (2, .int ((a / 12) - (b / 12))), (0, .int a), (1, .int b)]) hx hb dX1_apart_61 hl (by decide) rfl (fun ls hl => ?_)
          refine lv_iload_n hx hb dX1_apart_63 rfl (lv_at hl 3 rfl) ?_
          refine lv_iconst (v := 1) hx hb dX1_apart_64 (by decide) ?_
          refine lv_icmp_gt (x := ((a / 12) - (b / 12))) (y := 1) (tgt := 73) hx hb dX1_apart_65 (by decide) (fun c_65 => ?_) (fun c_65 => ?_)
          · skip
            refine lv_iconst (v := 4) hx hb dX1_apart_73 (by decide) ?_
            refine lv_goto (tgt := 104) hx hb dX1_apart_74 (by decide) ?_
            exact W.iret hx hb hr (fun t ht hW => ⟨⟨_, (), rfl, (by show 4 = mApart a b; first | (simp only [mApart, mIsFar, mFar, mB, sDeck, eq_true c_25, eq_false c_39, eq_false c_44, eq_true c_53, eq_true c_65, reduceIte, Bool.false_eq_true, Bool.true_eq_false]; done) | (simp [mApart, mIsFar, mFar, mB, sDeck, eq_true c_25, eq_false c_39, eq_false c_44, eq_true c_53, eq_true c_65]; done)), trivial⟩, hS.F ht⟩) hS.2.2 dX1_apart_104
          · skip
            refine lv_iload_n hx hb dX1_apart_68 rfl (lv_at hl 3 rfl) ?_
            refine lv_iconst (v := (-1)) hx hb dX1_apart_69 (by decide) ?_
            refine lv_icmp_ge (x := ((a / 12) - (b / 12))) (y := (-1)) (tgt := 77) hx hb dX1_apart_70 (by decide) (fun c_70 => ?_) (fun c_70 => ?_)
            · skip
              refine lv_iload_n hx hb dX1_apart_77 rfl (lv_at hl 3 rfl) ?_
              refine lv_if_eq (x := ((a / 12) - (b / 12))) (tgt := 85) hx hb dX1_apart_78 (by decide) (fun c_78 => ?_) (fun c_78 => ?_)
              · skip
                refine lv_iload hx hb dX1_apart_85 (lv_at hl 0 rfl) ?_
                refine lv_if_eq (x := 0) (tgt := 94) hx hb dX1_apart_87 (by decide) (fun _ => ?_) (fun k => absurd (by decide) k)
                refine lv_iload_n hx hb dX1_apart_94 rfl (lv_at hl 4 rfl) ?_
                refine lv_iload_n hx hb dX1_apart_95 rfl (lv_at hl 5 rfl) ?_
                refine lv_icmp_eq (x := a) (y := b) (tgt := 103) hx hb dX1_apart_96 (by decide) (fun c_96 => ?_) (fun c_96 => ?_)
                · skip
                  refine lv_iconst (v := 0) hx hb dX1_apart_103 (by decide) ?_
                  exact W.iret hx hb hr (fun t ht hW => ⟨⟨_, (), rfl, (by show 0 = mApart a b; first | (simp only [mApart, mIsFar, mFar, mB, sDeck, eq_true c_25, eq_false c_39, eq_false c_44, eq_true c_53, eq_false c_65, eq_true c_70, eq_true c_78, eq_true c_96, reduceIte, Bool.false_eq_true, Bool.true_eq_false]; done) | (simp [mApart, mIsFar, mFar, mB, sDeck, eq_true c_25, eq_false c_39, eq_false c_44, eq_true c_53, eq_false c_65, eq_true c_70, eq_true c_78, eq_true c_96]; done)), trivial⟩, hS.F ht⟩) hS.2.2 dX1_apart_104
                · skip
                  refine lv_iconst (v := 1) hx hb dX1_apart_99 (by decide) ?_
                  refine lv_goto (tgt := 104) hx hb dX1_apart_100 (by decide) ?_
                  exact W.iret hx hb hr (fun t ht hW => ⟨⟨_, (), rfl, (by show 1 = mApart a b; first | (simp only [mApart, mIsFar, mFar, mB, sDeck, eq_true c_25, eq_false c_39, eq_false c_44, eq_true c_53, eq_false c_65, eq_true c_70, eq_true c_78, eq_false c_96, reduceIte, Bool.false_eq_true, Bool.true_eq_false]; done) | (simp [mApart, mIsFar, mFar, mB, sDeck, eq_true c_25, eq_false c_39, eq_false c_44, eq_true c_53, eq_false c_65, eq_true c_70, eq_true c_78, eq_false c_96]; done)), trivial⟩, hS.F ht⟩) hS.2.2 dX1_apart_104
              · skip
                refine lv_iconst (v := 3) hx hb dX1_apart_81 (by decide) ?_
                refine lv_goto (tgt := 104) hx hb dX1_apart_82 (by decide) ?_
                exact W.iret hx hb hr (fun t ht hW => ⟨⟨_, (), rfl, (by show 3 = mApart a b; first | (simp only [mApart, mIsFar, mFar, mB, sDeck, eq_true c_25, eq_false c_39, eq_false c_44, eq_true c_53, eq_false c_65, eq_true c_70, eq_false c_78, reduceIte, Bool.false_eq_true, Bool.true_eq_false]; done) | (simp [mApart, mIsFar, mFar, mB, sDeck, eq_true c_25, eq_false c_39, eq_false c_44, eq_true c_53, eq_false c_65, eq_true c_70, eq_false c_78]; done)), trivial⟩, hS.F ht⟩) hS.2.2 dX1_apart_104
            · skip
              refine lv_iconst (v := 4) hx hb dX1_apart_73 (by decide) ?_
              refine lv_goto (tgt := 104) hx hb dX1_apart_74 (by decide) ?_
              exact W.iret hx hb hr (fun t ht hW => ⟨⟨_, (), rfl, (by show 4 = mApart a b; first | (simp only [mApart, mIsFar, mFar, mB, sDeck, eq_true c_25, eq_false c_39, eq_false c_44, eq_true c_53, eq_false c_65, eq_false c_70, reduceIte, Bool.false_eq_true, Bool.true_eq_false]; done) | (simp [mApart, mIsFar, mFar, mB, sDeck, eq_true c_25, eq_false c_39, eq_false c_44, eq_true c_53, eq_false c_65, eq_false c_70]; done)), trivial⟩, hS.F ht⟩) hS.2.2 dX1_apart_104
        · skip
          refine lv_iconst (v := 1) hx hb dX1_apart_56 (by decide) ?_
          refine lv_goto (tgt := 61) hx hb dX1_apart_57 (by decide) ?_
          refine lv_istore (lv' := [(5, .int 1), (4, .int (((a / 2) - (a / 2) / 6 * 6) - ((b / 2) - (b / 2) / 6 * 6))), (3, .int (((a / 2) - (a / 2) / 6 * 6) - ((b / 2) - (b / 2) / 6 * 6))), (2, .int ((a / 12) - (b / 12))), (0, .int a), (1, .int b)]) hx hb dX1_apart_61 hl (by decide) rfl (fun ls hl => ?_)
          refine lv_iload_n hx hb dX1_apart_63 rfl (lv_at hl 3 rfl) ?_
          refine lv_iconst (v := 1) hx hb dX1_apart_64 (by decide) ?_
          refine lv_icmp_gt (x := ((a / 12) - (b / 12))) (y := 1) (tgt := 73) hx hb dX1_apart_65 (by decide) (fun c_65 => ?_) (fun c_65 => ?_)
          · skip
            refine lv_iconst (v := 4) hx hb dX1_apart_73 (by decide) ?_
            refine lv_goto (tgt := 104) hx hb dX1_apart_74 (by decide) ?_
            exact W.iret hx hb hr (fun t ht hW => ⟨⟨_, (), rfl, (by show 4 = mApart a b; first | (simp only [mApart, mIsFar, mFar, mB, sDeck, eq_true c_25, eq_false c_39, eq_false c_44, eq_false c_53, eq_true c_65, reduceIte, Bool.false_eq_true, Bool.true_eq_false]; done) | (simp [mApart, mIsFar, mFar, mB, sDeck, eq_true c_25, eq_false c_39, eq_false c_44, eq_false c_53, eq_true c_65]; done)), trivial⟩, hS.F ht⟩) hS.2.2 dX1_apart_104
          · skip
            refine lv_iload_n hx hb dX1_apart_68 rfl (lv_at hl 3 rfl) ?_
            refine lv_iconst (v := (-1)) hx hb dX1_apart_69 (by decide) ?_
            refine lv_icmp_ge (x := ((a / 12) - (b / 12))) (y := (-1)) (tgt := 77) hx hb dX1_apart_70 (by decide) (fun c_70 => ?_) (fun c_70 => ?_)
            · skip
              refine lv_iload_n hx hb dX1_apart_77 rfl (lv_at hl 3 rfl) ?_
              refine lv_if_eq (x := ((a / 12) - (b / 12))) (tgt := 85) hx hb dX1_apart_78 (by decide) (fun c_78 => ?_) (fun c_78 => ?_)
              · skip
                refine lv_iload hx hb dX1_apart_85 (lv_at hl 0 rfl) ?_
                refine lv_if_eq (x := 1) (tgt := 94) hx hb dX1_apart_87 (by decide) (fun k => absurd k (by decide)) (fun _ => ?_)
                refine lv_iconst (v := 2) hx hb dX1_apart_90 (by decide) ?_
                refine lv_goto (tgt := 104) hx hb dX1_apart_91 (by decide) ?_
                exact W.iret hx hb hr (fun t ht hW => ⟨⟨_, (), rfl, (by show 2 = mApart a b; first | (simp only [mApart, mIsFar, mFar, mB, sDeck, eq_true c_25, eq_false c_39, eq_false c_44, eq_false c_53, eq_false c_65, eq_true c_70, eq_true c_78, reduceIte, Bool.false_eq_true, Bool.true_eq_false]; done) | (simp [mApart, mIsFar, mFar, mB, sDeck, eq_true c_25, eq_false c_39, eq_false c_44, eq_false c_53, eq_false c_65, eq_true c_70, eq_true c_78]; done)), trivial⟩, hS.F ht⟩) hS.2.2 dX1_apart_104
              · skip
                refine lv_iconst (v := 3) hx hb dX1_apart_81 (by decide) ?_
                refine lv_goto (tgt := 104) hx hb dX1_apart_82 (by decide) ?_
                exact W.iret hx hb hr (fun t ht hW => ⟨⟨_, (), rfl, (by show 3 = mApart a b; first | (simp only [mApart, mIsFar, mFar, mB, sDeck, eq_true c_25, eq_false c_39, eq_false c_44, eq_false c_53, eq_false c_65, eq_true c_70, eq_false c_78, reduceIte, Bool.false_eq_true, Bool.true_eq_false]; done) | (simp [mApart, mIsFar, mFar, mB, sDeck, eq_true c_25, eq_false c_39, eq_false c_44, eq_false c_53, eq_false c_65, eq_true c_70, eq_false c_78]; done)), trivial⟩, hS.F ht⟩) hS.2.2 dX1_apart_104
            · skip
              refine lv_iconst (v := 4) hx hb dX1_apart_73 (by decide) ?_
              refine lv_goto (tgt := 104) hx hb dX1_apart_74 (by decide) ?_
              exact W.iret hx hb hr (fun t ht hW => ⟨⟨_, (), rfl, (by show 4 = mApart a b; first | (simp only [mApart, mIsFar, mFar, mB, sDeck, eq_true c_25, eq_false c_39, eq_false c_44, eq_false c_53, eq_false c_65, eq_false c_70, reduceIte, Bool.false_eq_true, Bool.true_eq_false]; done) | (simp [mApart, mIsFar, mFar, mB, sDeck, eq_true c_25, eq_false c_39, eq_false c_44, eq_false c_53, eq_false c_65, eq_false c_70]; done)), trivial⟩, hS.F ht⟩) hS.2.2 dX1_apart_104
  · skip
    refine lv_iload_n hx hb dX1_apart_28 rfl (lv_at hl 0 rfl) ?_
    refine lv_ineg hx hb dX1_apart_29 ?_
    refine lv_goto (tgt := 34) hx hb dX1_apart_30 (by decide) ?_
    refine lv_istore (lv' := [(4, .int (-(((a / 2) - (a / 2) / 6 * 6) - ((b / 2) - (b / 2) / 6 * 6)))), (3, .int (((a / 2) - (a / 2) / 6 * 6) - ((b / 2) - (b / 2) / 6 * 6))), (2, .int ((a / 12) - (b / 12))), (0, .int a), (1, .int b)]) hx hb dX1_apart_34 hl (by decide) rfl (fun ls hl => ?_)
    refine lv_iload hx hb dX1_apart_36 (lv_at hl 0 rfl) ?_
    refine lv_iconst (v := 2) hx hb dX1_apart_38 (by decide) ?_
    refine lv_icmp_gt (x := (-(((a / 2) - (a / 2) / 6 * 6) - ((b / 2) - (b / 2) / 6 * 6)))) (y := 2) (tgt := 56) hx hb dX1_apart_39 (by decide) (fun c_39 => ?_) (fun c_39 => ?_)
    · skip
      refine lv_iconst (v := 1) hx hb dX1_apart_56 (by decide) ?_
      refine lv_goto (tgt := 61) hx hb dX1_apart_57 (by decide) ?_
      refine lv_istore (lv' := [(5, .int 1), (4, .int (-(((a / 2) - (a / 2) / 6 * 6) - ((b / 2) - (b / 2) / 6 * 6)))), (3, .int (((a / 2) - (a / 2) / 6 * 6) - ((b / 2) - (b / 2) / 6 * 6))), (2, .int ((a / 12) - (b / 12))), (0, .int a), (1, .int b)]) hx hb dX1_apart_61 hl (by decide) rfl (fun ls hl => ?_)
      refine lv_iload_n hx hb dX1_apart_63 rfl (lv_at hl 3 rfl) ?_
      refine lv_iconst (v := 1) hx hb dX1_apart_64 (by decide) ?_
      refine lv_icmp_gt (x := ((a / 12) - (b / 12))) (y := 1) (tgt := 73) hx hb dX1_apart_65 (by decide) (fun c_65 => ?_) (fun c_65 => ?_)
      · skip
        refine lv_iconst (v := 4) hx hb dX1_apart_73 (by decide) ?_
        refine lv_goto (tgt := 104) hx hb dX1_apart_74 (by decide) ?_
        exact W.iret hx hb hr (fun t ht hW => ⟨⟨_, (), rfl, (by show 4 = mApart a b; first | (simp only [mApart, mIsFar, mFar, mB, sDeck, eq_false c_25, eq_true c_39, eq_true c_65, reduceIte, Bool.false_eq_true, Bool.true_eq_false]; done) | (simp [mApart, mIsFar, mFar, mB, sDeck, eq_false c_25, eq_true c_39, eq_true c_65]; done)), trivial⟩, hS.F ht⟩) hS.2.2 dX1_apart_104
      · skip
        refine lv_iload_n hx hb dX1_apart_68 rfl (lv_at hl 3 rfl) ?_
        refine lv_iconst (v := (-1)) hx hb dX1_apart_69 (by decide) ?_
        refine lv_icmp_ge (x := ((a / 12) - (b / 12))) (y := (-1)) (tgt := 77) hx hb dX1_apart_70 (by decide) (fun c_70 => ?_) (fun c_70 => ?_)
        · skip
          refine lv_iload_n hx hb dX1_apart_77 rfl (lv_at hl 3 rfl) ?_
          refine lv_if_eq (x := ((a / 12) - (b / 12))) (tgt := 85) hx hb dX1_apart_78 (by decide) (fun c_78 => ?_) (fun c_78 => ?_)
          · skip
            refine lv_iload hx hb dX1_apart_85 (lv_at hl 0 rfl) ?_
            refine lv_if_eq (x := 1) (tgt := 94) hx hb dX1_apart_87 (by decide) (fun k => absurd k (by decide)) (fun _ => ?_)
            refine lv_iconst (v := 2) hx hb dX1_apart_90 (by decide) ?_
            refine lv_goto (tgt := 104) hx hb dX1_apart_91 (by decide) ?_
            exact W.iret hx hb hr (fun t ht hW => ⟨⟨_, (), rfl, (by show 2 = mApart a b; first | (simp only [mApart, mIsFar, mFar, mB, sDeck, eq_false c_25, eq_true c_39, eq_false c_65, eq_true c_70, eq_true c_78, reduceIte, Bool.false_eq_true, Bool.true_eq_false]; done) | (simp [mApart, mIsFar, mFar, mB, sDeck, eq_false c_25, eq_true c_39, eq_false c_65, eq_true c_70, eq_true c_78]; done)), trivial⟩, hS.F ht⟩) hS.2.2 dX1_apart_104
          · skip
            refine lv_iconst (v := 3) hx hb dX1_apart_81 (by decide) ?_
            refine lv_goto (tgt := 104) hx hb dX1_apart_82 (by decide) ?_
            exact W.iret hx hb hr (fun t ht hW => ⟨⟨_, (), rfl, (by show 3 = mApart a b; first | (simp only [mApart, mIsFar, mFar, mB, sDeck, eq_false c_25, eq_true c_39, eq_false c_65, eq_true c_70, eq_false c_78, reduceIte, Bool.false_eq_true, Bool.true_eq_false]; done) | (simp [mApart, mIsFar, mFar, mB, sDeck, eq_false c_25, eq_true c_39, eq_false c_65, eq_true c_70, eq_false c_78]; done)), trivial⟩, hS.F ht⟩) hS.2.2 dX1_apart_104
        · skip
          refine lv_iconst (v := 4) hx hb dX1_apart_73 (by decide) ?_
          refine lv_goto (tgt := 104) hx hb dX1_apart_74 (by decide) ?_
          exact W.iret hx hb hr (fun t ht hW => ⟨⟨_, (), rfl, (by show 4 = mApart a b; first | (simp only [mApart, mIsFar, mFar, mB, sDeck, eq_false c_25, eq_true c_39, eq_false c_65, eq_false c_70, reduceIte, Bool.false_eq_true, Bool.true_eq_false]; done) | (simp [mApart, mIsFar, mFar, mB, sDeck, eq_false c_25, eq_true c_39, eq_false c_65, eq_false c_70]; done)), trivial⟩, hS.F ht⟩) hS.2.2 dX1_apart_104
    · skip
      refine lv_iload hx hb dX1_apart_42 (lv_at hl 0 rfl) ?_
      refine lv_if_le (x := (-(((a / 2) - (a / 2) / 6 * 6) - ((b / 2) - (b / 2) / 6 * 6)))) (tgt := 60) hx hb dX1_apart_44 (by decide) (fun c_44 => ?_) (fun c_44 => ?_)
      · skip
        refine lv_iconst (v := 0) hx hb dX1_apart_60 (by decide) ?_
        refine lv_istore (lv' := [(5, .int 0), (4, .int (-(((a / 2) - (a / 2) / 6 * 6) - ((b / 2) - (b / 2) / 6 * 6)))), (3, .int (((a / 2) - (a / 2) / 6 * 6) - ((b / 2) - (b / 2) / 6 * 6))), (2, .int ((a / 12) - (b / 12))), (0, .int a), (1, .int b)]) hx hb dX1_apart_61 hl (by decide) rfl (fun ls hl => ?_)
        refine lv_iload_n hx hb dX1_apart_63 rfl (lv_at hl 3 rfl) ?_
        refine lv_iconst (v := 1) hx hb dX1_apart_64 (by decide) ?_
        refine lv_icmp_gt (x := ((a / 12) - (b / 12))) (y := 1) (tgt := 73) hx hb dX1_apart_65 (by decide) (fun c_65 => ?_) (fun c_65 => ?_)
        · skip
          refine lv_iconst (v := 4) hx hb dX1_apart_73 (by decide) ?_
          refine lv_goto (tgt := 104) hx hb dX1_apart_74 (by decide) ?_
          exact W.iret hx hb hr (fun t ht hW => ⟨⟨_, (), rfl, (by show 4 = mApart a b; first | (simp only [mApart, mIsFar, mFar, mB, sDeck, eq_false c_25, eq_false c_39, eq_true c_44, eq_true c_65, reduceIte, Bool.false_eq_true, Bool.true_eq_false]; done) | (simp [mApart, mIsFar, mFar, mB, sDeck, eq_false c_25, eq_false c_39, eq_true c_44, eq_true c_65]; done)), trivial⟩, hS.F ht⟩) hS.2.2 dX1_apart_104
        · skip
          refine lv_iload_n hx hb dX1_apart_68 rfl (lv_at hl 3 rfl) ?_
          refine lv_iconst (v := (-1)) hx hb dX1_apart_69 (by decide) ?_
          refine lv_icmp_ge (x := ((a / 12) - (b / 12))) (y := (-1)) (tgt := 77) hx hb dX1_apart_70 (by decide) (fun c_70 => ?_) (fun c_70 => ?_)
          · skip
            refine lv_iload_n hx hb dX1_apart_77 rfl (lv_at hl 3 rfl) ?_
            refine lv_if_eq (x := ((a / 12) - (b / 12))) (tgt := 85) hx hb dX1_apart_78 (by decide) (fun c_78 => ?_) (fun c_78 => ?_)
            · skip
              refine lv_iload hx hb dX1_apart_85 (lv_at hl 0 rfl) ?_
              refine lv_if_eq (x := 0) (tgt := 94) hx hb dX1_apart_87 (by decide) (fun _ => ?_) (fun k => absurd (by decide) k)
              refine lv_iload_n hx hb dX1_apart_94 rfl (lv_at hl 4 rfl) ?_
              refine lv_iload_n hx hb dX1_apart_95 rfl (lv_at hl 5 rfl) ?_
              refine lv_icmp_eq (x := a) (y := b) (tgt := 103) hx hb dX1_apart_96 (by decide) (fun c_96 => ?_) (fun c_96 => ?_)
              · skip
                refine lv_iconst (v := 0) hx hb dX1_apart_103 (by decide) ?_
                exact W.iret hx hb hr (fun t ht hW => ⟨⟨_, (), rfl, (by show 0 = mApart a b; first | (simp only [mApart, mIsFar, mFar, mB, sDeck, eq_false c_25, eq_false c_39, eq_true c_44, eq_false c_65, eq_true c_70, eq_true c_78, eq_true c_96, reduceIte, Bool.false_eq_true, Bool.true_eq_false]; done) | (simp [mApart, mIsFar, mFar, mB, sDeck, eq_false c_25, eq_false c_39, eq_true c_44, eq_false c_65, eq_true c_70, eq_true c_78, eq_true c_96]; done)), trivial⟩, hS.F ht⟩) hS.2.2 dX1_apart_104
              · skip
                refine lv_iconst (v := 1) hx hb dX1_apart_99 (by decide) ?_
                refine lv_goto (tgt := 104) hx hb dX1_apart_100 (by decide) ?_
                exact W.iret hx hb hr (fun t ht hW => ⟨⟨_, (), rfl, (by show 1 = mApart a b; first | (simp only [mApart, mIsFar, mFar, mB, sDeck, eq_false c_25, eq_false c_39, eq_true c_44, eq_false c_65, eq_true c_70, eq_true c_78, eq_false c_96, reduceIte, Bool.false_eq_true, Bool.true_eq_false]; done) | (simp [mApart, mIsFar, mFar, mB, sDeck, eq_false c_25, eq_false c_39, eq_true c_44, eq_false c_65, eq_true c_70, eq_true c_78, eq_false c_96]; done)), trivial⟩, hS.F ht⟩) hS.2.2 dX1_apart_104
            · skip
              refine lv_iconst (v := 3) hx hb dX1_apart_81 (by decide) ?_
              refine lv_goto (tgt := 104) hx hb dX1_apart_82 (by decide) ?_
              exact W.iret hx hb hr (fun t ht hW => ⟨⟨_, (), rfl, (by show 3 = mApart a b; first | (simp only [mApart, mIsFar, mFar, mB, sDeck, eq_false c_25, eq_false c_39, eq_true c_44, eq_false c_65, eq_true c_70, eq_false c_78, reduceIte, Bool.false_eq_true, Bool.true_eq_false]; done) | (simp [mApart, mIsFar, mFar, mB, sDeck, eq_false c_25, eq_false c_39, eq_true c_44, eq_false c_65, eq_true c_70, eq_false c_78]; done)), trivial⟩, hS.F ht⟩) hS.2.2 dX1_apart_104
          · skip
            refine lv_iconst (v := 4) hx hb dX1_apart_73 (by decide) ?_
            refine lv_goto (tgt := 104) hx hb dX1_apart_74 (by decide) ?_
            exact W.iret hx hb hr (fun t ht hW => ⟨⟨_, (), rfl, (by show 4 = mApart a b; first | (simp only [mApart, mIsFar, mFar, mB, sDeck, eq_false c_25, eq_false c_39, eq_true c_44, eq_false c_65, eq_false c_70, reduceIte, Bool.false_eq_true, Bool.true_eq_false]; done) | (simp [mApart, mIsFar, mFar, mB, sDeck, eq_false c_25, eq_false c_39, eq_true c_44, eq_false c_65, eq_false c_70]; done)), trivial⟩, hS.F ht⟩) hS.2.2 dX1_apart_104
      · skip
        refine lv_iload_n hx hb dX1_apart_47 rfl (lv_at hl 3 rfl) ?_
        refine lv_iconst (v := 2) hx hb dX1_apart_48 (by decide) ?_
        refine lv_irem hx hb (x := a) (y := 2) dX1_apart_49 (by decide) ?_
        refine lv_iload_n hx hb dX1_apart_50 rfl (lv_at hl 4 rfl) ?_
        refine lv_iconst (v := 2) hx hb dX1_apart_51 (by decide) ?_
        refine lv_irem hx hb (x := b) (y := 2) dX1_apart_52 (by decide) ?_
        refine lv_icmp_eq (x := (a - a / 2 * 2)) (y := (b - b / 2 * 2)) (tgt := 60) hx hb dX1_apart_53 (by decide) (fun c_53 => ?_) (fun c_53 => ?_)
        · skip
          refine lv_iconst (v := 0) hx hb dX1_apart_60 (by decide) ?_
          refine lv_istore (lv' := [(5, .int 0), (4, .int (-(((a / 2) - (a / 2) / 6 * 6) - ((b / 2) - (b / 2) / 6 * 6)))), (3, .int (((a / 2) - (a / 2) / 6 * 6) - ((b / 2) - (b / 2) / 6 * 6))), (2, .int ((a / 12) - (b / 12))), (0, .int a), (1, .int b)]) hx hb dX1_apart_61 hl (by decide) rfl (fun ls hl => ?_)
          refine lv_iload_n hx hb dX1_apart_63 rfl (lv_at hl 3 rfl) ?_
          refine lv_iconst (v := 1) hx hb dX1_apart_64 (by decide) ?_
          refine lv_icmp_gt (x := ((a / 12) - (b / 12))) (y := 1) (tgt := 73) hx hb dX1_apart_65 (by decide) (fun c_65 => ?_) (fun c_65 => ?_)
          · skip
            refine lv_iconst (v := 4) hx hb dX1_apart_73 (by decide) ?_
            refine lv_goto (tgt := 104) hx hb dX1_apart_74 (by decide) ?_
            exact W.iret hx hb hr (fun t ht hW => ⟨⟨_, (), rfl, (by show 4 = mApart a b; first | (simp only [mApart, mIsFar, mFar, mB, sDeck, eq_false c_25, eq_false c_39, eq_false c_44, eq_true c_53, eq_true c_65, reduceIte, Bool.false_eq_true, Bool.true_eq_false]; done) | (simp [mApart, mIsFar, mFar, mB, sDeck, eq_false c_25, eq_false c_39, eq_false c_44, eq_true c_53, eq_true c_65]; done)), trivial⟩, hS.F ht⟩) hS.2.2 dX1_apart_104
          · skip
            refine lv_iload_n hx hb dX1_apart_68 rfl (lv_at hl 3 rfl) ?_
            refine lv_iconst (v := (-1)) hx hb dX1_apart_69 (by decide) ?_
            refine lv_icmp_ge (x := ((a / 12) - (b / 12))) (y := (-1)) (tgt := 77) hx hb dX1_apart_70 (by decide) (fun c_70 => ?_) (fun c_70 => ?_)
            · skip
              refine lv_iload_n hx hb dX1_apart_77 rfl (lv_at hl 3 rfl) ?_
              refine lv_if_eq (x := ((a / 12) - (b / 12))) (tgt := 85) hx hb dX1_apart_78 (by decide) (fun c_78 => ?_) (fun c_78 => ?_)
              · skip
                refine lv_iload hx hb dX1_apart_85 (lv_at hl 0 rfl) ?_
                refine lv_if_eq (x := 0) (tgt := 94) hx hb dX1_apart_87 (by decide) (fun _ => ?_) (fun k => absurd (by decide) k)
                refine lv_iload_n hx hb dX1_apart_94 rfl (lv_at hl 4 rfl) ?_
                refine lv_iload_n hx hb dX1_apart_95 rfl (lv_at hl 5 rfl) ?_
                refine lv_icmp_eq (x := a) (y := b) (tgt := 103) hx hb dX1_apart_96 (by decide) (fun c_96 => ?_) (fun c_96 => ?_)
                · skip
                  refine lv_iconst (v := 0) hx hb dX1_apart_103 (by decide) ?_
                  exact W.iret hx hb hr (fun t ht hW => ⟨⟨_, (), rfl, (by show 0 = mApart a b; first | (simp only [mApart, mIsFar, mFar, mB, sDeck, eq_false c_25, eq_false c_39, eq_false c_44, eq_true c_53, eq_false c_65, eq_true c_70, eq_true c_78, eq_true c_96, reduceIte, Bool.false_eq_true, Bool.true_eq_false]; done) | (simp [mApart, mIsFar, mFar, mB, sDeck, eq_false c_25, eq_false c_39, eq_false c_44, eq_true c_53, eq_false c_65, eq_true c_70, eq_true c_78, eq_true c_96]; done)), trivial⟩, hS.F ht⟩) hS.2.2 dX1_apart_104
                · skip
                  refine lv_iconst (v := 1) hx hb dX1_apart_99 (by decide) ?_
                  refine lv_goto (tgt := 104) hx hb dX1_apart_100 (by decide) ?_
                  exact W.iret hx hb hr (fun t ht hW => ⟨⟨_, (), rfl, (by show 1 = mApart a b; first | (simp only [mApart, mIsFar, mFar, mB, sDeck, eq_false c_25, eq_false c_39, eq_false c_44, eq_true c_53, eq_false c_65, eq_true c_70, eq_true c_78, eq_false c_96, reduceIte, Bool.false_eq_true, Bool.true_eq_false]; done) | (simp [mApart, mIsFar, mFar, mB, sDeck, eq_false c_25, eq_false c_39, eq_false c_44, eq_true c_53, eq_false c_65, eq_true c_70, eq_true c_78, eq_false c_96]; done)), trivial⟩, hS.F ht⟩) hS.2.2 dX1_apart_104
              · skip
                refine lv_iconst (v := 3) hx hb dX1_apart_81 (by decide) ?_
                refine lv_goto (tgt := 104) hx hb dX1_apart_82 (by decide) ?_
                exact W.iret hx hb hr (fun t ht hW => ⟨⟨_, (), rfl, (by show 3 = mApart a b; first | (simp only [mApart, mIsFar, mFar, mB, sDeck, eq_false c_25, eq_false c_39, eq_false c_44, eq_true c_53, eq_false c_65, eq_true c_70, eq_false c_78, reduceIte, Bool.false_eq_true, Bool.true_eq_false]; done) | (simp [mApart, mIsFar, mFar, mB, sDeck, eq_false c_25, eq_false c_39, eq_false c_44, eq_true c_53, eq_false c_65, eq_true c_70, eq_false c_78]; done)), trivial⟩, hS.F ht⟩) hS.2.2 dX1_apart_104
            · skip
              refine lv_iconst (v := 4) hx hb dX1_apart_73 (by decide) ?_
              refine lv_goto (tgt := 104) hx hb dX1_apart_74 (by decide) ?_
              exact W.iret hx hb hr (fun t ht hW => ⟨⟨_, (), rfl, (by show 4 = mApart a b; first | (simp only [mApart, mIsFar, mFar, mB, sDeck, eq_false c_25, eq_false c_39, eq_false c_44, eq_true c_53, eq_false c_65, eq_false c_70, reduceIte, Bool.false_eq_true, Bool.true_eq_false]; done) | (simp [mApart, mIsFar, mFar, mB, sDeck, eq_false c_25, eq_false c_39, eq_false c_44, eq_true c_53, eq_false c_65, eq_false c_70]; done)), trivial⟩, hS.F ht⟩) hS.2.2 dX1_apart_104
        · skip
          refine lv_iconst (v := 1) hx hb dX1_apart_56 (by decide) ?_
          refine lv_goto (tgt := 61) hx hb dX1_apart_57 (by decide) ?_
          refine lv_istore (lv' := [(5, .int 1), (4, .int (-(((a / 2) - (a / 2) / 6 * 6) - ((b / 2) - (b / 2) / 6 * 6)))), (3, .int (((a / 2) - (a / 2) / 6 * 6) - ((b / 2) - (b / 2) / 6 * 6))), (2, .int ((a / 12) - (b / 12))), (0, .int a), (1, .int b)]) hx hb dX1_apart_61 hl (by decide) rfl (fun ls hl => ?_)
          refine lv_iload_n hx hb dX1_apart_63 rfl (lv_at hl 3 rfl) ?_
          refine lv_iconst (v := 1) hx hb dX1_apart_64 (by decide) ?_
          refine lv_icmp_gt (x := ((a / 12) - (b / 12))) (y := 1) (tgt := 73) hx hb dX1_apart_65 (by decide) (fun c_65 => ?_) (fun c_65 => ?_)
          · skip
            refine lv_iconst (v := 4) hx hb dX1_apart_73 (by decide) ?_
            refine lv_goto (tgt := 104) hx hb dX1_apart_74 (by decide) ?_
            exact W.iret hx hb hr (fun t ht hW => ⟨⟨_, (), rfl, (by show 4 = mApart a b; first | (simp only [mApart, mIsFar, mFar, mB, sDeck, eq_false c_25, eq_false c_39, eq_false c_44, eq_false c_53, eq_true c_65, reduceIte, Bool.false_eq_true, Bool.true_eq_false]; done) | (simp [mApart, mIsFar, mFar, mB, sDeck, eq_false c_25, eq_false c_39, eq_false c_44, eq_false c_53, eq_true c_65]; done)), trivial⟩, hS.F ht⟩) hS.2.2 dX1_apart_104
          · skip
            refine lv_iload_n hx hb dX1_apart_68 rfl (lv_at hl 3 rfl) ?_
            refine lv_iconst (v := (-1)) hx hb dX1_apart_69 (by decide) ?_
            refine lv_icmp_ge (x := ((a / 12) - (b / 12))) (y := (-1)) (tgt := 77) hx hb dX1_apart_70 (by decide) (fun c_70 => ?_) (fun c_70 => ?_)
            · skip
              refine lv_iload_n hx hb dX1_apart_77 rfl (lv_at hl 3 rfl) ?_
              refine lv_if_eq (x := ((a / 12) - (b / 12))) (tgt := 85) hx hb dX1_apart_78 (by decide) (fun c_78 => ?_) (fun c_78 => ?_)
              · skip
                refine lv_iload hx hb dX1_apart_85 (lv_at hl 0 rfl) ?_
                refine lv_if_eq (x := 1) (tgt := 94) hx hb dX1_apart_87 (by decide) (fun k => absurd k (by decide)) (fun _ => ?_)
                refine lv_iconst (v := 2) hx hb dX1_apart_90 (by decide) ?_
                refine lv_goto (tgt := 104) hx hb dX1_apart_91 (by decide) ?_
                exact W.iret hx hb hr (fun t ht hW => ⟨⟨_, (), rfl, (by show 2 = mApart a b; first | (simp only [mApart, mIsFar, mFar, mB, sDeck, eq_false c_25, eq_false c_39, eq_false c_44, eq_false c_53, eq_false c_65, eq_true c_70, eq_true c_78, reduceIte, Bool.false_eq_true, Bool.true_eq_false]; done) | (simp [mApart, mIsFar, mFar, mB, sDeck, eq_false c_25, eq_false c_39, eq_false c_44, eq_false c_53, eq_false c_65, eq_true c_70, eq_true c_78]; done)), trivial⟩, hS.F ht⟩) hS.2.2 dX1_apart_104
              · skip
                refine lv_iconst (v := 3) hx hb dX1_apart_81 (by decide) ?_
                refine lv_goto (tgt := 104) hx hb dX1_apart_82 (by decide) ?_
                exact W.iret hx hb hr (fun t ht hW => ⟨⟨_, (), rfl, (by show 3 = mApart a b; first | (simp only [mApart, mIsFar, mFar, mB, sDeck, eq_false c_25, eq_false c_39, eq_false c_44, eq_false c_53, eq_false c_65, eq_true c_70, eq_false c_78, reduceIte, Bool.false_eq_true, Bool.true_eq_false]; done) | (simp [mApart, mIsFar, mFar, mB, sDeck, eq_false c_25, eq_false c_39, eq_false c_44, eq_false c_53, eq_false c_65, eq_true c_70, eq_false c_78]; done)), trivial⟩, hS.F ht⟩) hS.2.2 dX1_apart_104
            · skip
              refine lv_iconst (v := 4) hx hb dX1_apart_73 (by decide) ?_
              refine lv_goto (tgt := 104) hx hb dX1_apart_74 (by decide) ?_
              exact W.iret hx hb hr (fun t ht hW => ⟨⟨_, (), rfl, (by show 4 = mApart a b; first | (simp only [mApart, mIsFar, mFar, mB, sDeck, eq_false c_25, eq_false c_39, eq_false c_44, eq_false c_53, eq_false c_65, eq_false c_70, reduceIte, Bool.false_eq_true, Bool.true_eq_false]; done) | (simp [mApart, mIsFar, mFar, mB, sDeck, eq_false c_25, eq_false c_39, eq_false c_44, eq_false c_53, eq_false c_65, eq_false c_70]; done)), trivial⟩, hS.F ht⟩) hS.2.2 dX1_apart_104
set_option maxHeartbeats 4000000 in
set_option maxRecDepth 100000 in
theorem c_X1_isWithin_1 (l : Launch) (D : va_G) (q : Nat → Nat) (F : Nat → Nat → Int32) (n : Nat) (R : Nat → Int32) (th : Int32) (cI cZ : ClassId) (g : Nat) (hw : WF F n) (hg : g < n) : Met l yX1_isWithin wsX1_isWithin ({ frames := 0, cells := 0, slots := 0, locals := 0 }) (va_Pc [.ref (q 9), .int (nI g), .ref (q 1)] (rW D (wM q F (nI n) R th cI cZ) (tIZ cI cZ))) (RO (fun r => r = bi (sWithin F 1 g))) 0 0 nA := by
  refine ro_of (own := RX1) (cc := cX1_isWithin) (maxL := 4) (ret := (some .boolean)) (by decide) rfl rfl (Nat.le_of_ble_eq_true rfl) ?_
  intro p9 e9 s m9 a9 below meth c9 ls hx hb hr hml hlocks hown hts hP hK hl
  have hin : ∀ w ∈ wsX10, w ∈ wsX1_isWithin := by decide +kernel
  have f23 := hts (.fieldLink RX1 23 "DangerousGoodsModel" "classes" "[I") (by decide +kernel)
  have f26 := hts (.fieldLink RX1 26 "DangerousGoodsModel" "subsidiaries" "[I") (by decide +kernel)
  have f29 := hts (.fieldLink RX1 29 "DangerousGoodsModel" "quantities" "[I") (by decide +kernel)
  have hS : va_S nA s.heap s.heap [] := va_S.rf
  have hl : lv_has ls 4 [(0, .ref (q 9)), (1, .int (nI g)), (2, .ref (q 1))] := hl
  refine lv_aload_n hx hb dX1_isWithin_0 rfl (lv_at hl 0 rfl) ?_
  refine va_get (D := D) (ci := 1) (v := .ref (q 5)) hx hb hts hin hown hK hP 0 rfl rfl 6 (by decide) f26 (fun _ h9 => h9) rfl dX1_isWithin_1 ?_
  refine lv_iload_n hx hb dX1_isWithin_4 rfl (lv_at hl 1 rfl) ?_
  refine xiald hx hb hK hP 6 0 rfl rfl (g := g) (hw.g hg) (by decide) dX1_isWithin_5 ?_
  refine lv_istore_n (lv' := [(3, .int (F 5 g)), (0, .ref (q 9)), (1, .int (nI g)), (2, .ref (q 1))]) hx hb dX1_isWithin_6 rfl hl (by decide) rfl (fun ls hl => ?_)
  refine lv_aload_n hx hb dX1_isWithin_7 rfl (lv_at hl 1 rfl) ?_
  refine va_get (D := D) (ci := 1) (v := .ref (q 6)) hx hb hts hin hown hK hP 0 rfl rfl 7 (by decide) f29 (fun _ h9 => h9) rfl dX1_isWithin_8 ?_
  refine lv_iload_n hx hb dX1_isWithin_11 rfl (lv_at hl 2 rfl) ?_
  refine xiald hx hb hK hP 7 0 rfl rfl (g := g) (hw.g hg) (by decide) dX1_isWithin_12 ?_
  refine lv_aload_n hx hb dX1_isWithin_13 rfl (lv_at hl 3 rfl) ?_
  refine lv_aload_n hx hb dX1_isWithin_14 rfl (lv_at hl 1 rfl) ?_
  refine va_get (D := D) (ci := 1) (v := .ref (q 4)) hx hb hts hin hown hK hP 0 rfl rfl 5 (by decide) f23 (fun _ h9 => h9) rfl dX1_isWithin_15 ?_
  refine lv_iload_n hx hb dX1_isWithin_18 rfl (lv_at hl 2 rfl) ?_
  refine xiald hx hb hK hP 5 0 rfl rfl (g := g) (hw.g hg) (by decide) dX1_isWithin_19 ?_
  refine va_iald hx hb hK hP 2 0 rfl rfl (i := (F 4 g)) ((hw.c4 hg).in (hw.c4n hg)) dX1_isWithin_20 ?_
  refine lv_icmp_gt (x := (F 6 g)) (y := (F 1 (F 4 g).toNatClampNeg)) (tgt := 45) hx hb dX1_isWithin_21 (by decide) (fun c_21 => ?_) (fun c_21 => ?_)
  · skip
    refine lv_iconst (v := 0) hx hb dX1_isWithin_45 (by decide) ?_
    exact W.zret hx hb hr zn0 (fun t ht hW => ⟨⟨_, (), rfl, (by show 0 = bi (sWithin F 1 g); first | (simp only [bi, sWithin, eq_true c_21, reduceIte, Bool.false_eq_true, Bool.true_eq_false]; done) | (simp [bi, sWithin, eq_true c_21]; done)), trivial⟩, hS.F ht⟩) hS.2.2 dX1_isWithin_46
  · skip
    refine lv_iload_n hx hb dX1_isWithin_24 rfl (lv_at hl 0 rfl) ?_
    refine lv_iconst (v := (-1)) hx hb dX1_isWithin_25 (by decide) ?_
    refine lv_icmp_eq (x := (F 5 g)) (y := (-1)) (tgt := 41) hx hb dX1_isWithin_26 (by decide) (fun c_26 => ?_) (fun c_26 => ?_)
    · skip
      refine lv_iconst (v := 1) hx hb dX1_isWithin_41 (by decide) ?_
      refine lv_goto (tgt := 46) hx hb dX1_isWithin_42 (by decide) ?_
      exact W.zret hx hb hr zn1 (fun t ht hW => ⟨⟨_, (), rfl, (by show 1 = bi (sWithin F 1 g); first | (simp only [bi, sWithin, eq_false c_21, eq_true c_26, reduceIte, Bool.false_eq_true, Bool.true_eq_false]; done) | (simp [bi, sWithin, eq_false c_21, eq_true c_26]; done)), trivial⟩, hS.F ht⟩) hS.2.2 dX1_isWithin_46
    · skip
      refine lv_aload_n hx hb dX1_isWithin_29 rfl (lv_at hl 1 rfl) ?_
      refine va_get (D := D) (ci := 1) (v := .ref (q 6)) hx hb hts hin hown hK hP 0 rfl rfl 7 (by decide) f29 (fun _ h9 => h9) rfl dX1_isWithin_30 ?_
      refine lv_iload_n hx hb dX1_isWithin_33 rfl (lv_at hl 2 rfl) ?_
      refine xiald hx hb hK hP 7 0 rfl rfl (g := g) (hw.g hg) (by decide) dX1_isWithin_34 ?_
      refine lv_aload_n hx hb dX1_isWithin_35 rfl (lv_at hl 3 rfl) ?_
      refine lv_iload_n hx hb dX1_isWithin_36 rfl (lv_at hl 0 rfl) ?_
      refine va_iald hx hb hK hP 2 0 rfl rfl (i := (F 5 g)) ((hw.c5 hg).in c_26) dX1_isWithin_37 ?_
      refine lv_icmp_gt (x := (F 6 g)) (y := (F 1 (F 5 g).toNatClampNeg)) (tgt := 45) hx hb dX1_isWithin_38 (by decide) (fun c_38 => ?_) (fun c_38 => ?_)
      · skip
        refine lv_iconst (v := 0) hx hb dX1_isWithin_45 (by decide) ?_
        exact W.zret hx hb hr zn0 (fun t ht hW => ⟨⟨_, (), rfl, (by show 0 = bi (sWithin F 1 g); first | (simp only [bi, sWithin, eq_false c_21, eq_false c_26, eq_true c_38, reduceIte, Bool.false_eq_true, Bool.true_eq_false]; done) | (simp [bi, sWithin, eq_false c_21, eq_false c_26, eq_true c_38]; done)), trivial⟩, hS.F ht⟩) hS.2.2 dX1_isWithin_46
      · skip
        refine lv_iconst (v := 1) hx hb dX1_isWithin_41 (by decide) ?_
        refine lv_goto (tgt := 46) hx hb dX1_isWithin_42 (by decide) ?_
        exact W.zret hx hb hr zn1 (fun t ht hW => ⟨⟨_, (), rfl, (by show 1 = bi (sWithin F 1 g); first | (simp only [bi, sWithin, eq_false c_21, eq_false c_26, eq_false c_38, reduceIte, Bool.false_eq_true, Bool.true_eq_false]; done) | (simp [bi, sWithin, eq_false c_21, eq_false c_26, eq_false c_38]; done)), trivial⟩, hS.F ht⟩) hS.2.2 dX1_isWithin_46
set_option maxHeartbeats 4000000 in
set_option maxRecDepth 100000 in
theorem c_X1_isWithin_2 (l : Launch) (D : va_G) (q : Nat → Nat) (F : Nat → Nat → Int32) (n : Nat) (R : Nat → Int32) (th : Int32) (cI cZ : ClassId) (g : Nat) (hw : WF F n) (hg : g < n) : Met l yX1_isWithin wsX1_isWithin ({ frames := 0, cells := 0, slots := 0, locals := 0 }) (va_Pc [.ref (q 9), .int (nI g), .ref (q 2)] (rW D (wM q F (nI n) R th cI cZ) (tIZ cI cZ))) (RO (fun r => r = bi (sWithin F 2 g))) 0 0 nA := by
  refine ro_of (own := RX1) (cc := cX1_isWithin) (maxL := 4) (ret := (some .boolean)) (by decide) rfl rfl (Nat.le_of_ble_eq_true rfl) ?_
  intro p9 e9 s m9 a9 below meth c9 ls hx hb hr hml hlocks hown hts hP hK hl
  have hin : ∀ w ∈ wsX10, w ∈ wsX1_isWithin := by decide +kernel
  have f23 := hts (.fieldLink RX1 23 "DangerousGoodsModel" "classes" "[I") (by decide +kernel)
  have f26 := hts (.fieldLink RX1 26 "DangerousGoodsModel" "subsidiaries" "[I") (by decide +kernel)
  have f29 := hts (.fieldLink RX1 29 "DangerousGoodsModel" "quantities" "[I") (by decide +kernel)
  have hS : va_S nA s.heap s.heap [] := va_S.rf
  have hl : lv_has ls 4 [(0, .ref (q 9)), (1, .int (nI g)), (2, .ref (q 2))] := hl
  refine lv_aload_n hx hb dX1_isWithin_0 rfl (lv_at hl 0 rfl) ?_
  refine va_get (D := D) (ci := 1) (v := .ref (q 5)) hx hb hts hin hown hK hP 0 rfl rfl 6 (by decide) f26 (fun _ h9 => h9) rfl dX1_isWithin_1 ?_
  refine lv_iload_n hx hb dX1_isWithin_4 rfl (lv_at hl 1 rfl) ?_
  refine xiald hx hb hK hP 6 0 rfl rfl (g := g) (hw.g hg) (by decide) dX1_isWithin_5 ?_
  refine lv_istore_n (lv' := [(3, .int (F 5 g)), (0, .ref (q 9)), (1, .int (nI g)), (2, .ref (q 2))]) hx hb dX1_isWithin_6 rfl hl (by decide) rfl (fun ls hl => ?_)
  refine lv_aload_n hx hb dX1_isWithin_7 rfl (lv_at hl 1 rfl) ?_
  refine va_get (D := D) (ci := 1) (v := .ref (q 6)) hx hb hts hin hown hK hP 0 rfl rfl 7 (by decide) f29 (fun _ h9 => h9) rfl dX1_isWithin_8 ?_
  refine lv_iload_n hx hb dX1_isWithin_11 rfl (lv_at hl 2 rfl) ?_
  refine xiald hx hb hK hP 7 0 rfl rfl (g := g) (hw.g hg) (by decide) dX1_isWithin_12 ?_
  refine lv_aload_n hx hb dX1_isWithin_13 rfl (lv_at hl 3 rfl) ?_
  refine lv_aload_n hx hb dX1_isWithin_14 rfl (lv_at hl 1 rfl) ?_
  refine va_get (D := D) (ci := 1) (v := .ref (q 4)) hx hb hts hin hown hK hP 0 rfl rfl 5 (by decide) f23 (fun _ h9 => h9) rfl dX1_isWithin_15 ?_
  refine lv_iload_n hx hb dX1_isWithin_18 rfl (lv_at hl 2 rfl) ?_
  refine xiald hx hb hK hP 5 0 rfl rfl (g := g) (hw.g hg) (by decide) dX1_isWithin_19 ?_
  refine va_iald hx hb hK hP 3 0 rfl rfl (i := (F 4 g)) ((hw.c4 hg).in (hw.c4n hg)) dX1_isWithin_20 ?_
  refine lv_icmp_gt (x := (F 6 g)) (y := (F 2 (F 4 g).toNatClampNeg)) (tgt := 45) hx hb dX1_isWithin_21 (by decide) (fun c_21 => ?_) (fun c_21 => ?_)
  · skip
    refine lv_iconst (v := 0) hx hb dX1_isWithin_45 (by decide) ?_
    exact W.zret hx hb hr zn0 (fun t ht hW => ⟨⟨_, (), rfl, (by show 0 = bi (sWithin F 2 g); first | (simp only [bi, sWithin, eq_true c_21, reduceIte, Bool.false_eq_true, Bool.true_eq_false]; done) | (simp [bi, sWithin, eq_true c_21]; done)), trivial⟩, hS.F ht⟩) hS.2.2 dX1_isWithin_46
  · skip
    refine lv_iload_n hx hb dX1_isWithin_24 rfl (lv_at hl 0 rfl) ?_
    refine lv_iconst (v := (-1)) hx hb dX1_isWithin_25 (by decide) ?_
    refine lv_icmp_eq (x := (F 5 g)) (y := (-1)) (tgt := 41) hx hb dX1_isWithin_26 (by decide) (fun c_26 => ?_) (fun c_26 => ?_)
    · skip
      refine lv_iconst (v := 1) hx hb dX1_isWithin_41 (by decide) ?_
      refine lv_goto (tgt := 46) hx hb dX1_isWithin_42 (by decide) ?_
      exact W.zret hx hb hr zn1 (fun t ht hW => ⟨⟨_, (), rfl, (by show 1 = bi (sWithin F 2 g); first | (simp only [bi, sWithin, eq_false c_21, eq_true c_26, reduceIte, Bool.false_eq_true, Bool.true_eq_false]; done) | (simp [bi, sWithin, eq_false c_21, eq_true c_26]; done)), trivial⟩, hS.F ht⟩) hS.2.2 dX1_isWithin_46
    · skip
      refine lv_aload_n hx hb dX1_isWithin_29 rfl (lv_at hl 1 rfl) ?_
      refine va_get (D := D) (ci := 1) (v := .ref (q 6)) hx hb hts hin hown hK hP 0 rfl rfl 7 (by decide) f29 (fun _ h9 => h9) rfl dX1_isWithin_30 ?_
      refine lv_iload_n hx hb dX1_isWithin_33 rfl (lv_at hl 2 rfl) ?_
      refine xiald hx hb hK hP 7 0 rfl rfl (g := g) (hw.g hg) (by decide) dX1_isWithin_34 ?_
      refine lv_aload_n hx hb dX1_isWithin_35 rfl (lv_at hl 3 rfl) ?_
      refine lv_iload_n hx hb dX1_isWithin_36 rfl (lv_at hl 0 rfl) ?_
      refine va_iald hx hb hK hP 3 0 rfl rfl (i := (F 5 g)) ((hw.c5 hg).in c_26) dX1_isWithin_37 ?_
      refine lv_icmp_gt (x := (F 6 g)) (y := (F 2 (F 5 g).toNatClampNeg)) (tgt := 45) hx hb dX1_isWithin_38 (by decide) (fun c_38 => ?_) (fun c_38 => ?_)
      · skip
        refine lv_iconst (v := 0) hx hb dX1_isWithin_45 (by decide) ?_
        exact W.zret hx hb hr zn0 (fun t ht hW => ⟨⟨_, (), rfl, (by show 0 = bi (sWithin F 2 g); first | (simp only [bi, sWithin, eq_false c_21, eq_false c_26, eq_true c_38, reduceIte, Bool.false_eq_true, Bool.true_eq_false]; done) | (simp [bi, sWithin, eq_false c_21, eq_false c_26, eq_true c_38]; done)), trivial⟩, hS.F ht⟩) hS.2.2 dX1_isWithin_46
      · skip
        refine lv_iconst (v := 1) hx hb dX1_isWithin_41 (by decide) ?_
        refine lv_goto (tgt := 46) hx hb dX1_isWithin_42 (by decide) ?_
        exact W.zret hx hb hr zn1 (fun t ht hW => ⟨⟨_, (), rfl, (by show 1 = bi (sWithin F 2 g); first | (simp only [bi, sWithin, eq_false c_21, eq_false c_26, eq_false c_38, reduceIte, Bool.false_eq_true, Bool.true_eq_false]; done) | (simp [bi, sWithin, eq_false c_21, eq_false c_26, eq_false c_38]; done)), trivial⟩, hS.F ht⟩) hS.2.2 dX1_isWithin_46
set_option maxHeartbeats 4000000 in
set_option maxRecDepth 100000 in
theorem c_X1_areExcepted (l : Launch) (D : va_G) (q : Nat → Nat) (F : Nat → Nat → Int32) (n : Nat) (R : Nat → Int32) (th : Int32) (cI cZ : ClassId) (g : Nat) (hw : WF F n) (hg : g < n) : Met l yX1_areExcepted wsX1_areExcepted ({ frames := 1, cells := 0, slots := 0, locals := 23 }) (va_Pc [.ref (q 9), .int (nI g)] (rW D (wM q F (nI n) R th cI cZ) (tIZ cI cZ))) (RO (fun r => r = bi (sExc F g))) 0 0 nA := by
  refine ro_of (own := RX1) (cc := cX1_areExcepted) (maxL := 2) (ret := (some .boolean)) (by decide) rfl rfl (Nat.le_of_ble_eq_true rfl) ?_
  intro p9 e9 s m9 a9 below meth c9 ls hx hb hr hml hlocks hown hts hP hK hl
  have hin : ∀ w ∈ wsX10, w ∈ wsX1_areExcepted := by decide +kernel
  have f16 := hts (.fieldLink RX1 16 "DangerousGoodsModel" "exceptions" "[I") (by decide +kernel)
  have hS : va_S nA s.heap s.heap [] := va_S.rf
  have hl : lv_has ls 2 [(0, .ref (q 9)), (1, .int (nI g))] := hl
  refine lv_aload_n hx hb dX1_areExcepted_0 rfl (lv_at hl 0 rfl) ?_
  refine lv_iload_n hx hb dX1_areExcepted_1 rfl (lv_at hl 1 rfl) ?_
  refine lv_aload_n hx hb dX1_areExcepted_2 rfl (lv_at hl 0 rfl) ?_
  refine va_get (D := D) (ci := 1) (v := .ref (q 2)) hx hb hts hin hown hK hP 0 rfl rfl 2 (by decide) f16 (fun _ h9 => h9) rfl dX1_areExcepted_3 ?_
  refine ro_V (As := [.int (nI g), .ref (q 2)]) (rest := []) ⟨hx, hb, hml, hown, hts⟩ (c_X1_isWithin_2 l D q F n R th cI cZ g hw hg) (cwV 2 hts gX1_areExcepted_X1_isWithin rfl rfl rfl (by decide +kernel) ⟨Nat.le_of_ble_eq_true rfl, Nat.le_of_ble_eq_true rfl⟩) hK hP hP (va_recv hK hP (ci := 1) (q0 := 0) rfl rfl) hS rfl hl.1 rfl (Nat.le_of_ble_eq_true rfl) dX1_areExcepted_6 ⟨Nat.le_of_ble_eq_true rfl, Nat.le_of_ble_eq_true rfl⟩ (fun r H locs hr9 hP hS => ?_)
  subst hr9
  exact W.zret hx hb hr (bi_nar _) (fun t ht hW => ⟨⟨_, (), rfl, rfl, trivial⟩, hS.F ht⟩) hS.2.2 dX1_areExcepted_9
set_option maxHeartbeats 4000000 in
set_option maxRecDepth 100000 in
theorem c_X1_areLimited (l : Launch) (D : va_G) (q : Nat → Nat) (F : Nat → Nat → Int32) (n : Nat) (R : Nat → Int32) (th : Int32) (cI cZ : ClassId) (g : Nat) (hw : WF F n) (hg : g < n) : Met l yX1_areLimited wsX1_areLimited ({ frames := 2, cells := 0, slots := 0, locals := 44 }) (va_Pc [.ref (q 9), .int (nI g)] (rW D (wM q F (nI n) R th cI cZ) (tIZ cI cZ))) (RO (fun r => r = bi (sLim F g))) 0 0 nA := by
  refine ro_of (own := RX1) (cc := cX1_areLimited) (maxL := 2) (ret := (some .boolean)) (by decide) rfl rfl (Nat.le_of_ble_eq_true rfl) ?_
  intro p9 e9 s m9 a9 below meth c9 ls hx hb hr hml hlocks hown hts hP hK hl
  have hin : ∀ w ∈ wsX10, w ∈ wsX1_areLimited := by decide +kernel
  have f13 := hts (.fieldLink RX1 13 "DangerousGoodsModel" "limits" "[I") (by decide +kernel)
  have hS : va_S nA s.heap s.heap [] := va_S.rf
  have hl : lv_has ls 2 [(0, .ref (q 9)), (1, .int (nI g))] := hl
  refine lv_aload_n hx hb dX1_areLimited_0 rfl (lv_at hl 0 rfl) ?_
  refine lv_iload_n hx hb dX1_areLimited_1 rfl (lv_at hl 1 rfl) ?_
  refine ro_V (As := [.int (nI g)]) (rest := []) ⟨hx, hb, hml, hown, hts⟩ (c_X1_areExcepted l D q F n R th cI cZ g hw hg) (cwV 1 hts gX1_areLimited_X1_areExcepted rfl rfl rfl (by decide +kernel) ⟨Nat.le_of_ble_eq_true rfl, Nat.le_of_ble_eq_true rfl⟩) hK hP hP (va_recv hK hP (ci := 1) (q0 := 0) rfl rfl) hS rfl hl.1 rfl (Nat.le_of_ble_eq_true rfl) dX1_areLimited_2 ⟨Nat.le_of_ble_eq_true rfl, Nat.le_of_ble_eq_true rfl⟩ (fun r H locs hr9 hP hS => ?_)
  subst hr9
  refine lv_if_ne (x := (bi (sExc F g))) (tgt := 24) hx hb dX1_areLimited_5 (by decide) (fun c_5 => ?_) (fun c_5 => ?_)
  · have c_5 := bi_n0.mp c_5
    refine lv_iconst (v := 0) hx hb dX1_areLimited_24 (by decide) ?_
    exact W.zret hx hb hr zn0 (fun t ht hW => ⟨⟨_, (), rfl, (by show 0 = bi (sLim F g); simp only [sExc] at c_5; first | (simp only [bi, sLim, c_5, reduceIte, Bool.false_eq_true, Bool.true_eq_false]; done) | (simp [bi, sLim, c_5]; done)), trivial⟩, hS.F ht⟩) hS.2.2 dX1_areLimited_25
  · have c_5 := bi_e0.mp c_5
    refine lv_aload_n hx hb dX1_areLimited_8 rfl (lv_at hl 0 rfl) ?_
    refine lv_iload_n hx hb dX1_areLimited_9 rfl (lv_at hl 1 rfl) ?_
    refine lv_aload_n hx hb dX1_areLimited_10 rfl (lv_at hl 0 rfl) ?_
    refine va_get (D := D) (ci := 1) (v := .ref (q 1)) hx hb hts hin hown hK hP 0 rfl rfl 1 (by decide) f13 (fun _ h9 => h9) rfl dX1_areLimited_11 ?_
    refine ro_V (As := [.int (nI g), .ref (q 1)]) (rest := []) ⟨hx, hb, hml, hown, hts⟩ (c_X1_isWithin_1 l D q F n R th cI cZ g hw hg) (cwV 2 hts gX1_areLimited_X1_isWithin rfl rfl rfl (by decide +kernel) ⟨Nat.le_of_ble_eq_true rfl, Nat.le_of_ble_eq_true rfl⟩) hK hP hP (va_recv hK hP (ci := 1) (q0 := 0) rfl rfl) hS rfl hl.1 rfl (Nat.le_of_ble_eq_true rfl) dX1_areLimited_14 ⟨Nat.le_of_ble_eq_true rfl, Nat.le_of_ble_eq_true rfl⟩ (fun r H locs hr9 hP hS => ?_)
    subst hr9
    refine lv_if_eq (x := (bi (sWithin F 1 g))) (tgt := 24) hx hb dX1_areLimited_17 (by decide) (fun c_17 => ?_) (fun c_17 => ?_)
    · have c_17 := bi_e0.mp c_17
      refine lv_iconst (v := 0) hx hb dX1_areLimited_24 (by decide) ?_
      exact W.zret hx hb hr zn0 (fun t ht hW => ⟨⟨_, (), rfl, (by show 0 = bi (sLim F g); simp only [sExc] at c_5; first | (simp only [bi, sLim, c_5, c_17, reduceIte, Bool.false_eq_true, Bool.true_eq_false]; done) | (simp [bi, sLim, c_5, c_17]; done)), trivial⟩, hS.F ht⟩) hS.2.2 dX1_areLimited_25
    · have c_17 := bi_n0.mp c_17
      refine lv_iconst (v := 1) hx hb dX1_areLimited_20 (by decide) ?_
      refine lv_goto (tgt := 25) hx hb dX1_areLimited_21 (by decide) ?_
      exact W.zret hx hb hr zn1 (fun t ht hW => ⟨⟨_, (), rfl, (by show 1 = bi (sLim F g); simp only [sExc] at c_5; first | (simp only [bi, sLim, c_5, c_17, reduceIte, Bool.false_eq_true, Bool.true_eq_false]; done) | (simp [bi, sLim, c_5, c_17]; done)), trivial⟩, hS.F ht⟩) hS.2.2 dX1_areLimited_25
set_option maxHeartbeats 4000000 in
set_option maxRecDepth 100000 in
theorem c_X1_ofTable (l : Launch) (D : va_G) (q : Nat → Nat) (F : Nat → Nat → Int32) (n : Nat) (R : Nat → Int32) (th : Int32) (cI cZ : ClassId) (c1 : Int32) (c2 : Int32) (h1 : okC c1) (h2 : okC c2) : Met l yX1_ofTable wsX1_ofTable ({ frames := 0, cells := 0, slots := 0, locals := 0 }) (va_Pc [.ref (q 9), .int c1, .int c2] (rW D (wM q F (nI n) R th cI cZ) (tIZ cI cZ))) (RO (fun r => r = mTab F c1 c2)) 0 0 nA := by
  refine ro_of (own := RX1) (cc := cX1_ofTable) (maxL := 3) (ret := (some .int)) (by decide) rfl rfl (Nat.le_of_ble_eq_true rfl) ?_
  intro p9 e9 s m9 a9 below meth c9 ls hx hb hr hml hlocks hown hts hP hK hl
  have hin : ∀ w ∈ wsX10, w ∈ wsX1_ofTable := by decide +kernel
  have f7 := hts (.fieldLink RX1 7 "DangerousGoodsModel" "table" "[I") (by decide +kernel)
  have hS : va_S nA s.heap s.heap [] := va_S.rf
  have hl : lv_has ls 3 [(0, .ref (q 9)), (1, .int c1), (2, .int c2)] := hl
  refine lv_iload_n hx hb dX1_ofTable_0 rfl (lv_at hl 1 rfl) ?_
  refine lv_iconst (v := (-1)) hx hb dX1_ofTable_1 (by decide) ?_
  refine lv_icmp_eq (x := c1) (y := (-1)) (tgt := 10) hx hb dX1_ofTable_2 (by decide) (fun c_2 => ?_) (fun c_2 => ?_)
  · skip
    refine lv_iconst (v := 0) hx hb dX1_ofTable_10 (by decide) ?_
    refine lv_goto (tgt := 25) hx hb dX1_ofTable_11 (by decide) ?_
    exact W.iret hx hb hr (fun t ht hW => ⟨⟨_, (), rfl, (by show 0 = mTab F c1 c2; first | (simp only [mTab, eq_true c_2, reduceIte, Bool.false_eq_true, Bool.true_eq_false]; done) | (simp [mTab, eq_true c_2]; done)), trivial⟩, hS.F ht⟩) hS.2.2 dX1_ofTable_25
  · skip
    refine lv_iload_n hx hb dX1_ofTable_5 rfl (lv_at hl 2 rfl) ?_
    refine lv_iconst (v := (-1)) hx hb dX1_ofTable_6 (by decide) ?_
    refine lv_icmp_ne (x := c2) (y := (-1)) (tgt := 14) hx hb dX1_ofTable_7 (by decide) (fun c_7 => ?_) (fun c_7 => ?_)
    · skip
      refine lv_aload_n hx hb dX1_ofTable_14 rfl (lv_at hl 0 rfl) ?_
      refine va_get (D := D) (ci := 1) (v := .ref (q 0)) hx hb hts hin hown hK hP 0 rfl rfl 0 (by decide) f7 (fun _ h9 => h9) rfl dX1_ofTable_15 ?_
      refine lv_bipush (v := 10) hx hb dX1_ofTable_18 (by decide) ?_
      refine lv_iload_n hx hb dX1_ofTable_20 rfl (lv_at hl 1 rfl) ?_
      refine lv_imul hx hb (x := 10) (y := c1) dX1_ofTable_21 ?_
      refine lv_iload_n hx hb dX1_ofTable_22 rfl (lv_at hl 2 rfl) ?_
      refine lv_iadd hx hb (x := (10 * c1)) (y := c2) dX1_ofTable_23 ?_
      refine va_iald hx hb hK hP 1 0 rfl rfl (i := ((10 * c1) + c2)) (tab_in2 h1 h2 (id c_2) (id c_7)) dX1_ofTable_24 ?_
      exact W.iret hx hb hr (fun t ht hW => ⟨⟨_, (), rfl, (by show (F 0 ((10 * c1) + c2).toNatClampNeg) = mTab F c1 c2; first | (simp only [mTab, eq_false c_2, eq_false c_7, reduceIte, Bool.false_eq_true, Bool.true_eq_false]; done) | (simp [mTab, eq_false c_2, eq_false c_7]; done)), trivial⟩, hS.F ht⟩) hS.2.2 dX1_ofTable_25
    · skip
      refine lv_iconst (v := 0) hx hb dX1_ofTable_10 (by decide) ?_
      refine lv_goto (tgt := 25) hx hb dX1_ofTable_11 (by decide) ?_
      exact W.iret hx hb hr (fun t ht hW => ⟨⟨_, (), rfl, (by show 0 = mTab F c1 c2; first | (simp only [mTab, eq_false c_2, eq_true c_7, reduceIte, Bool.false_eq_true, Bool.true_eq_false]; done) | (simp [mTab, eq_false c_2, eq_true c_7]; done)), trivial⟩, hS.F ht⟩) hS.2.2 dX1_ofTable_25
set_option maxHeartbeats 4000000 in
set_option maxRecDepth 100000 in
theorem c_X1_greater (l : Launch) (a : Int32) (b : Int32) : Met l yX1_greater wsX1_greater ({ frames := 0, cells := 0, slots := 0, locals := 0 }) (va_Pc [.int a, .int b] (fun _ => True)) (RO (fun r => r = mGt a b)) 0 0 nA := by
  refine ro_ofS (own := RX1) (cc := cX1_greater) (maxL := 2) (ret := (some .int)) (by decide) rfl rfl (Nat.le_of_ble_eq_true rfl) ?_
  intro p9 e9 s m9 a9 below meth c9 ls hx hb hr hml hlocks hown hts hP hl
  have hS : va_S nA s.heap s.heap [] := va_S.rf
  have hl : lv_has ls 2 [(0, .int a), (1, .int b)] := hl
  refine lv_iload_n hx hb dX1_greater_0 rfl (lv_at hl 0 rfl) ?_
  refine lv_iload_n hx hb dX1_greater_1 rfl (lv_at hl 1 rfl) ?_
  refine lv_icmp_le (x := a) (y := b) (tgt := 9) hx hb dX1_greater_2 (by decide) (fun c_2 => ?_) (fun c_2 => ?_)
  · skip
    refine lv_iload_n hx hb dX1_greater_9 rfl (lv_at hl 1 rfl) ?_
    exact W.iret hx hb hr (fun t ht hW => ⟨⟨_, (), rfl, (by show b = mGt a b; first | (simp only [mGt, eq_true c_2, reduceIte, Bool.false_eq_true, Bool.true_eq_false]; done) | (simp [mGt, eq_true c_2]; done)), trivial⟩, hS.F ht⟩) hS.2.2 dX1_greater_10
  · skip
    refine lv_iload_n hx hb dX1_greater_5 rfl (lv_at hl 0 rfl) ?_
    refine lv_goto (tgt := 10) hx hb dX1_greater_6 (by decide) ?_
    exact W.iret hx hb hr (fun t ht hW => ⟨⟨_, (), rfl, (by show a = mGt a b; first | (simp only [mGt, eq_false c_2, reduceIte, Bool.false_eq_true, Bool.true_eq_false]; done) | (simp [mGt, eq_false c_2]; done)), trivial⟩, hS.F ht⟩) hS.2.2 dX1_greater_10
set_option maxHeartbeats 4000000 in
set_option maxRecDepth 100000 in
theorem c_X1_needs (l : Launch) (D : va_G) (q : Nat → Nat) (F : Nat → Nat → Int32) (n : Nat) (R : Nat → Int32) (th : Int32) (cI cZ : ClassId) (g : Nat) (h : Nat) (hw : WF F n) (hg : g < n) (hh : h < n) : Met l yX1_needs wsX1_needs ({ frames := 3, cells := 0, slots := 0, locals := 65 }) (va_Pc [.ref (q 9), .int (nI g), .int (nI h)] (rW D (wM q F (nI n) R th cI cZ) (tIZ cI cZ))) (RO (fun r => r = mNeed F g h)) 0 0 nA := by
  refine ro_of (own := RX1) (cc := cX1_needs) (maxL := 6) (ret := (some .int)) (by decide) rfl rfl (Nat.le_of_ble_eq_true rfl) ?_
  intro p9 e9 s m9 a9 below meth c9 ls hx hb hr hml hlocks hown hts hP hK hl
  have hin : ∀ w ∈ wsX10, w ∈ wsX1_needs := by decide +kernel
  have f23 := hts (.fieldLink RX1 23 "DangerousGoodsModel" "classes" "[I") (by decide +kernel)
  have f26 := hts (.fieldLink RX1 26 "DangerousGoodsModel" "subsidiaries" "[I") (by decide +kernel)
  have hS : va_S nA s.heap s.heap [] := va_S.rf
  have hl : lv_has ls 6 [(0, .ref (q 9)), (1, .int (nI g)), (2, .int (nI h))] := hl
  refine lv_aload_n hx hb dX1_needs_0 rfl (lv_at hl 0 rfl) ?_
  refine lv_aload_n hx hb dX1_needs_1 rfl (lv_at hl 0 rfl) ?_
  refine va_get (D := D) (ci := 1) (v := .ref (q 4)) hx hb hts hin hown hK hP 0 rfl rfl 5 (by decide) f23 (fun _ h9 => h9) rfl dX1_needs_2 ?_
  refine lv_iload_n hx hb dX1_needs_5 rfl (lv_at hl 1 rfl) ?_
  refine xiald hx hb hK hP 5 0 rfl rfl (g := g) (hw.g hg) (by decide) dX1_needs_6 ?_
  refine lv_aload_n hx hb dX1_needs_7 rfl (lv_at hl 0 rfl) ?_
  refine va_get (D := D) (ci := 1) (v := .ref (q 4)) hx hb hts hin hown hK hP 0 rfl rfl 5 (by decide) f23 (fun _ h9 => h9) rfl dX1_needs_8 ?_
  refine lv_iload_n hx hb dX1_needs_11 rfl (lv_at hl 2 rfl) ?_
  refine xiald hx hb hK hP 5 0 rfl rfl (g := h) (hw.g hh) (by decide) dX1_needs_12 ?_
  refine ro_V (As := [.int (F 4 g), .int (F 4 h)]) (rest := []) ⟨hx, hb, hml, hown, hts⟩ (c_X1_ofTable l D q F n R th cI cZ (F 4 g) (F 4 h) (hw.c4 hg) (hw.c4 hh)) (cwV 2 hts gX1_needs_X1_ofTable rfl rfl rfl (by decide +kernel) ⟨Nat.le_of_ble_eq_true rfl, Nat.le_of_ble_eq_true rfl⟩) hK hP hP (va_recv hK hP (ci := 1) (q0 := 0) rfl rfl) hS rfl hl.1 rfl (Nat.le_of_ble_eq_true rfl) dX1_needs_13 ⟨Nat.le_of_ble_eq_true rfl, Nat.le_of_ble_eq_true rfl⟩ (fun r H locs hr9 hP hS => ?_)
  subst hr9
  refine lv_aload_n hx hb dX1_needs_16 rfl (lv_at hl 0 rfl) ?_
  refine lv_aload_n hx hb dX1_needs_17 rfl (lv_at hl 0 rfl) ?_
  refine va_get (D := D) (ci := 1) (v := .ref (q 4)) hx hb hts hin hown hK hP 0 rfl rfl 5 (by decide) f23 (fun _ h9 => h9) rfl dX1_needs_18 ?_
  refine lv_iload_n hx hb dX1_needs_21 rfl (lv_at hl 1 rfl) ?_
  refine xiald hx hb hK hP 5 0 rfl rfl (g := g) (hw.g hg) (by decide) dX1_needs_22 ?_
  refine lv_aload_n hx hb dX1_needs_23 rfl (lv_at hl 0 rfl) ?_
  refine va_get (D := D) (ci := 1) (v := .ref (q 5)) hx hb hts hin hown hK hP 0 rfl rfl 6 (by decide) f26 (fun _ h9 => h9) rfl dX1_needs_24 ?_
  refine lv_iload_n hx hb dX1_needs_27 rfl (lv_at hl 2 rfl) ?_
  refine xiald hx hb hK hP 6 0 rfl rfl (g := h) (hw.g hh) (by decide) dX1_needs_28 ?_
  refine ro_V (As := [.int (F 4 g), .int (F 5 h)]) (rest := [.int (mTab F (F 4 g) (F 4 h))]) ⟨hx, hb, hml, hown, hts⟩ (c_X1_ofTable l D q F n R th cI cZ (F 4 g) (F 5 h) (hw.c4 hg) (hw.c5 hh)) (cwV 2 hts gX1_needs_X1_ofTable rfl rfl rfl (by decide +kernel) ⟨Nat.le_of_ble_eq_true rfl, Nat.le_of_ble_eq_true rfl⟩) hK hP hP (va_recv hK hP (ci := 1) (q0 := 0) rfl rfl) hS rfl hl.1 rfl (Nat.le_of_ble_eq_true rfl) dX1_needs_29 ⟨Nat.le_of_ble_eq_true rfl, Nat.le_of_ble_eq_true rfl⟩ (fun r H locs hr9 hP hS => ?_)
  subst hr9
  refine ro_S (As := [.int (mTab F (F 4 g) (F 4 h)), .int (mTab F (F 4 g) (F 5 h))]) (rest := []) ⟨hx, hb, hml, hown, hts⟩ (c_X1_greater l (mTab F (F 4 g) (F 4 h)) (mTab F (F 4 g) (F 5 h))) (va_cwS 2 hts gX1_needs_X1_greater rfl rfl rfl (by decide +kernel) ⟨Nat.le_of_ble_eq_true rfl, Nat.le_of_ble_eq_true rfl⟩) hP hS rfl hl.1 rfl (Nat.le_of_ble_eq_true rfl) dX1_needs_32 ⟨Nat.le_of_ble_eq_true rfl, Nat.le_of_ble_eq_true rfl⟩ (fun r H locs hr9 hP hS => ?_)
  subst hr9
  refine lv_istore_n (lv' := [(3, .int (mGt (mTab F (F 4 g) (F 4 h)) (mTab F (F 4 g) (F 5 h)))), (0, .ref (q 9)), (1, .int (nI g)), (2, .int (nI h))]) hx hb dX1_needs_35 rfl hl (by decide) rfl (fun ls hl => ?_)
  refine lv_aload_n hx hb dX1_needs_36 rfl (lv_at hl 1 rfl) ?_
  refine lv_aload_n hx hb dX1_needs_37 rfl (lv_at hl 1 rfl) ?_
  refine va_get (D := D) (ci := 1) (v := .ref (q 5)) hx hb hts hin hown hK hP 0 rfl rfl 6 (by decide) f26 (fun _ h9 => h9) rfl dX1_needs_38 ?_
  refine lv_iload_n hx hb dX1_needs_41 rfl (lv_at hl 2 rfl) ?_
  refine xiald hx hb hK hP 6 0 rfl rfl (g := g) (hw.g hg) (by decide) dX1_needs_42 ?_
  refine lv_aload_n hx hb dX1_needs_43 rfl (lv_at hl 1 rfl) ?_
  refine va_get (D := D) (ci := 1) (v := .ref (q 4)) hx hb hts hin hown hK hP 0 rfl rfl 5 (by decide) f23 (fun _ h9 => h9) rfl dX1_needs_44 ?_
  refine lv_iload_n hx hb dX1_needs_47 rfl (lv_at hl 3 rfl) ?_
  refine xiald hx hb hK hP 5 0 rfl rfl (g := h) (hw.g hh) (by decide) dX1_needs_48 ?_
  refine ro_V (As := [.int (F 5 g), .int (F 4 h)]) (rest := []) ⟨hx, hb, hml, hown, hts⟩ (c_X1_ofTable l D q F n R th cI cZ (F 5 g) (F 4 h) (hw.c5 hg) (hw.c4 hh)) (cwV 2 hts gX1_needs_X1_ofTable rfl rfl rfl (by decide +kernel) ⟨Nat.le_of_ble_eq_true rfl, Nat.le_of_ble_eq_true rfl⟩) hK hP hP (va_recv hK hP (ci := 1) (q0 := 0) rfl rfl) hS rfl hl.1 rfl (Nat.le_of_ble_eq_true rfl) dX1_needs_49 ⟨Nat.le_of_ble_eq_true rfl, Nat.le_of_ble_eq_true rfl⟩ (fun r H locs hr9 hP hS => ?_)
  subst hr9
  refine lv_aload_n hx hb dX1_needs_52 rfl (lv_at hl 1 rfl) ?_
  refine lv_aload_n hx hb dX1_needs_53 rfl (lv_at hl 1 rfl) ?_
  refine va_get (D := D) (ci := 1) (v := .ref (q 5)) hx hb hts hin hown hK hP 0 rfl rfl 6 (by decide) f26 (fun _ h9 => h9) rfl dX1_needs_54 ?_
  refine lv_iload_n hx hb dX1_needs_57 rfl (lv_at hl 2 rfl) ?_
  refine xiald hx hb hK hP 6 0 rfl rfl (g := g) (hw.g hg) (by decide) dX1_needs_58 ?_
  refine lv_aload_n hx hb dX1_needs_59 rfl (lv_at hl 1 rfl) ?_
  refine va_get (D := D) (ci := 1) (v := .ref (q 5)) hx hb hts hin hown hK hP 0 rfl rfl 6 (by decide) f26 (fun _ h9 => h9) rfl dX1_needs_60 ?_
  refine lv_iload_n hx hb dX1_needs_63 rfl (lv_at hl 3 rfl) ?_
  refine xiald hx hb hK hP 6 0 rfl rfl (g := h) (hw.g hh) (by decide) dX1_needs_64 ?_
  refine ro_V (As := [.int (F 5 g), .int (F 5 h)]) (rest := [.int (mTab F (F 5 g) (F 4 h))]) ⟨hx, hb, hml, hown, hts⟩ (c_X1_ofTable l D q F n R th cI cZ (F 5 g) (F 5 h) (hw.c5 hg) (hw.c5 hh)) (cwV 2 hts gX1_needs_X1_ofTable rfl rfl rfl (by decide +kernel) ⟨Nat.le_of_ble_eq_true rfl, Nat.le_of_ble_eq_true rfl⟩) hK hP hP (va_recv hK hP (ci := 1) (q0 := 0) rfl rfl) hS rfl hl.1 rfl (Nat.le_of_ble_eq_true rfl) dX1_needs_65 ⟨Nat.le_of_ble_eq_true rfl, Nat.le_of_ble_eq_true rfl⟩ (fun r H locs hr9 hP hS => ?_)
  subst hr9
  refine ro_S (As := [.int (mTab F (F 5 g) (F 4 h)), .int (mTab F (F 5 g) (F 5 h))]) (rest := []) ⟨hx, hb, hml, hown, hts⟩ (c_X1_greater l (mTab F (F 5 g) (F 4 h)) (mTab F (F 5 g) (F 5 h))) (va_cwS 2 hts gX1_needs_X1_greater rfl rfl rfl (by decide +kernel) ⟨Nat.le_of_ble_eq_true rfl, Nat.le_of_ble_eq_true rfl⟩) hP hS rfl hl.1 rfl (Nat.le_of_ble_eq_true rfl) dX1_needs_68 ⟨Nat.le_of_ble_eq_true rfl, Nat.le_of_ble_eq_true rfl⟩ (fun r H locs hr9 hP hS => ?_)
  subst hr9
  refine lv_istore (lv' := [(4, .int (mGt (mTab F (F 5 g) (F 4 h)) (mTab F (F 5 g) (F 5 h)))), (3, .int (mGt (mTab F (F 4 g) (F 4 h)) (mTab F (F 4 g) (F 5 h)))), (0, .ref (q 9)), (1, .int (nI g)), (2, .int (nI h))]) hx hb dX1_needs_71 hl (by decide) rfl (fun ls hl => ?_)
  refine lv_iload_n hx hb dX1_needs_73 rfl (lv_at hl 1 rfl) ?_
  refine lv_iload hx hb dX1_needs_74 (lv_at hl 0 rfl) ?_
  refine ro_S (As := [.int (mGt (mTab F (F 4 g) (F 4 h)) (mTab F (F 4 g) (F 5 h))), .int (mGt (mTab F (F 5 g) (F 4 h)) (mTab F (F 5 g) (F 5 h)))]) (rest := []) ⟨hx, hb, hml, hown, hts⟩ (c_X1_greater l (mGt (mTab F (F 4 g) (F 4 h)) (mTab F (F 4 g) (F 5 h))) (mGt (mTab F (F 5 g) (F 4 h)) (mTab F (F 5 g) (F 5 h)))) (va_cwS 2 hts gX1_needs_X1_greater rfl rfl rfl (by decide +kernel) ⟨Nat.le_of_ble_eq_true rfl, Nat.le_of_ble_eq_true rfl⟩) hP hS rfl hl.1 rfl (Nat.le_of_ble_eq_true rfl) dX1_needs_76 ⟨Nat.le_of_ble_eq_true rfl, Nat.le_of_ble_eq_true rfl⟩ (fun r H locs hr9 hP hS => ?_)
  subst hr9
  refine lv_istore (lv' := [(5, .int (mGt (mGt (mTab F (F 4 g) (F 4 h)) (mTab F (F 4 g) (F 5 h))) (mGt (mTab F (F 5 g) (F 4 h)) (mTab F (F 5 g) (F 5 h))))), (4, .int (mGt (mTab F (F 5 g) (F 4 h)) (mTab F (F 5 g) (F 5 h)))), (3, .int (mGt (mTab F (F 4 g) (F 4 h)) (mTab F (F 4 g) (F 5 h)))), (0, .ref (q 9)), (1, .int (nI g)), (2, .int (nI h))]) hx hb dX1_needs_79 hl (by decide) rfl (fun ls hl => ?_)
  have e5 : mGt (mGt (mTab F (F 4 g) (F 4 h)) (mTab F (F 4 g) (F 5 h))) (mGt (mTab F (F 5 g) (F 4 h)) (mTab F (F 5 g) (F 5 h))) = mGreat F g h := rfl
  rw [e5] at hl
  refine lv_aload_n hx hb dX1_needs_81 rfl (lv_at hl 3 rfl) ?_
  refine lv_iload_n hx hb dX1_needs_82 rfl (lv_at hl 4 rfl) ?_
  refine ro_V (As := [.int (nI g)]) (rest := []) ⟨hx, hb, hml, hown, hts⟩ (c_X1_areExcepted l D q F n R th cI cZ g hw hg) (cwV 1 hts gX1_needs_X1_areExcepted rfl rfl rfl (by decide +kernel) ⟨Nat.le_of_ble_eq_true rfl, Nat.le_of_ble_eq_true rfl⟩) hK hP hP (va_recv hK hP (ci := 1) (q0 := 0) rfl rfl) hS rfl hl.1 rfl (Nat.le_of_ble_eq_true rfl) dX1_needs_83 ⟨Nat.le_of_ble_eq_true rfl, Nat.le_of_ble_eq_true rfl⟩ (fun r H locs hr9 hP hS => ?_)
  subst hr9
  refine lv_if_ne (x := (bi (sExc F g))) (tgt := 97) hx hb dX1_needs_86 (by decide) (fun c_86 => ?_) (fun c_86 => ?_)
  · have c_86 := bi_n0.mp c_86
    refine lv_iconst (v := 0) hx hb dX1_needs_97 (by decide) ?_
    exact W.iret hx hb hr (fun t ht hW => ⟨⟨_, (), rfl, (by show 0 = mNeed F g h; first | (simp only [mNeed, mGreat, c_86, reduceIte, Bool.false_eq_true, Bool.true_eq_false]; done) | (simp [mNeed, mGreat, c_86]; done)), trivial⟩, hS.F ht⟩) hS.2.2 dX1_needs_98
  · have c_86 := bi_e0.mp c_86
    refine lv_aload_n hx hb dX1_needs_89 rfl (lv_at hl 3 rfl) ?_
    refine lv_iload_n hx hb dX1_needs_90 rfl (lv_at hl 5 rfl) ?_
    refine ro_V (As := [.int (nI h)]) (rest := []) ⟨hx, hb, hml, hown, hts⟩ (c_X1_areExcepted l D q F n R th cI cZ h hw hh) (cwV 1 hts gX1_needs_X1_areExcepted rfl rfl rfl (by decide +kernel) ⟨Nat.le_of_ble_eq_true rfl, Nat.le_of_ble_eq_true rfl⟩) hK hP hP (va_recv hK hP (ci := 1) (q0 := 0) rfl rfl) hS rfl hl.1 rfl (Nat.le_of_ble_eq_true rfl) dX1_needs_91 ⟨Nat.le_of_ble_eq_true rfl, Nat.le_of_ble_eq_true rfl⟩ (fun r H locs hr9 hP hS => ?_)
    subst hr9
    refine lv_if_eq (x := (bi (sExc F h))) (tgt := 99) hx hb dX1_needs_94 (by decide) (fun c_94 => ?_) (fun c_94 => ?_)
    · have c_94 := bi_e0.mp c_94
      refine lv_iload hx hb dX1_needs_99 (lv_at hl 0 rfl) ?_
      refine lv_if_le (x := (mGt (mGt (mTab F (F 4 g) (F 4 h)) (mTab F (F 4 g) (F 5 h))) (mGt (mTab F (F 5 g) (F 4 h)) (mTab F (F 5 g) (F 5 h))))) (tgt := 127) hx hb dX1_needs_101 (by decide) (fun c_101 => ?_) (fun c_101 => ?_)
      · skip
        refine lv_iload hx hb dX1_needs_127 (lv_at hl 0 rfl) ?_
        exact W.iret hx hb hr (fun t ht hW => ⟨⟨_, (), rfl, (by show (mGt (mGt (mTab F (F 4 g) (F 4 h)) (mTab F (F 4 g) (F 5 h))) (mGt (mTab F (F 5 g) (F 4 h)) (mTab F (F 5 g) (F 5 h)))) = mNeed F g h; first | (simp only [mNeed, mGreat, c_86, c_94, eq_true c_101, reduceIte, Bool.false_eq_true, Bool.true_eq_false]; done) | (simp [mNeed, mGreat, c_86, c_94, eq_true c_101]; done)), trivial⟩, hS.F ht⟩) hS.2.2 dX1_needs_129
      · skip
        refine lv_aload_n hx hb dX1_needs_104 rfl (lv_at hl 3 rfl) ?_
        refine lv_iload_n hx hb dX1_needs_105 rfl (lv_at hl 4 rfl) ?_
        refine ro_V (As := [.int (nI g)]) (rest := []) ⟨hx, hb, hml, hown, hts⟩ (c_X1_areLimited l D q F n R th cI cZ g hw hg) (cwV 1 hts gX1_needs_X1_areLimited rfl rfl rfl (by decide +kernel) ⟨Nat.le_of_ble_eq_true rfl, Nat.le_of_ble_eq_true rfl⟩) hK hP hP (va_recv hK hP (ci := 1) (q0 := 0) rfl rfl) hS rfl hl.1 rfl (Nat.le_of_ble_eq_true rfl) dX1_needs_106 ⟨Nat.le_of_ble_eq_true rfl, Nat.le_of_ble_eq_true rfl⟩ (fun r H locs hr9 hP hS => ?_)
        subst hr9
        refine lv_if_ne (x := (bi (sLim F g))) (tgt := 120) hx hb dX1_needs_109 (by decide) (fun c_109 => ?_) (fun c_109 => ?_)
        · have c_109 := bi_n0.mp c_109
          refine lv_iload hx hb dX1_needs_120 (lv_at hl 0 rfl) ?_
          refine lv_iconst (v := 1) hx hb dX1_needs_122 (by decide) ?_
          refine lv_isub hx hb (x := (mGt (mGt (mTab F (F 4 g) (F 4 h)) (mTab F (F 4 g) (F 5 h))) (mGt (mTab F (F 5 g) (F 4 h)) (mTab F (F 5 g) (F 5 h))))) (y := 1) dX1_needs_123 ?_
          refine lv_goto (tgt := 129) hx hb dX1_needs_124 (by decide) ?_
          exact W.iret hx hb hr (fun t ht hW => ⟨⟨_, (), rfl, (by show ((mGt (mGt (mTab F (F 4 g) (F 4 h)) (mTab F (F 4 g) (F 5 h))) (mGt (mTab F (F 5 g) (F 4 h)) (mTab F (F 5 g) (F 5 h)))) - 1) = mNeed F g h; first | (simp only [mNeed, mGreat, c_86, c_94, eq_false c_101, c_109, reduceIte, Bool.false_eq_true, Bool.true_eq_false]; done) | (simp [mNeed, mGreat, c_86, c_94, eq_false c_101, c_109]; done)), trivial⟩, hS.F ht⟩) hS.2.2 dX1_needs_129
        · have c_109 := bi_e0.mp c_109
          refine lv_aload_n hx hb dX1_needs_112 rfl (lv_at hl 3 rfl) ?_
          refine lv_iload_n hx hb dX1_needs_113 rfl (lv_at hl 5 rfl) ?_
          refine ro_V (As := [.int (nI h)]) (rest := []) ⟨hx, hb, hml, hown, hts⟩ (c_X1_areLimited l D q F n R th cI cZ h hw hh) (cwV 1 hts gX1_needs_X1_areLimited rfl rfl rfl (by decide +kernel) ⟨Nat.le_of_ble_eq_true rfl, Nat.le_of_ble_eq_true rfl⟩) hK hP hP (va_recv hK hP (ci := 1) (q0 := 0) rfl rfl) hS rfl hl.1 rfl (Nat.le_of_ble_eq_true rfl) dX1_needs_114 ⟨Nat.le_of_ble_eq_true rfl, Nat.le_of_ble_eq_true rfl⟩ (fun r H locs hr9 hP hS => ?_)
          subst hr9
          refine lv_if_eq (x := (bi (sLim F h))) (tgt := 127) hx hb dX1_needs_117 (by decide) (fun c_117 => ?_) (fun c_117 => ?_)
          · have c_117 := bi_e0.mp c_117
            refine lv_iload hx hb dX1_needs_127 (lv_at hl 0 rfl) ?_
            exact W.iret hx hb hr (fun t ht hW => ⟨⟨_, (), rfl, (by show (mGt (mGt (mTab F (F 4 g) (F 4 h)) (mTab F (F 4 g) (F 5 h))) (mGt (mTab F (F 5 g) (F 4 h)) (mTab F (F 5 g) (F 5 h)))) = mNeed F g h; first | (simp only [mNeed, mGreat, c_86, c_94, eq_false c_101, c_109, c_117, reduceIte, Bool.false_eq_true, Bool.true_eq_false]; done) | (simp [mNeed, mGreat, c_86, c_94, eq_false c_101, c_109, c_117]; done)), trivial⟩, hS.F ht⟩) hS.2.2 dX1_needs_129
          · have c_117 := bi_n0.mp c_117
            refine lv_iload hx hb dX1_needs_120 (lv_at hl 0 rfl) ?_
            refine lv_iconst (v := 1) hx hb dX1_needs_122 (by decide) ?_
            refine lv_isub hx hb (x := (mGt (mGt (mTab F (F 4 g) (F 4 h)) (mTab F (F 4 g) (F 5 h))) (mGt (mTab F (F 5 g) (F 4 h)) (mTab F (F 5 g) (F 5 h))))) (y := 1) dX1_needs_123 ?_
            refine lv_goto (tgt := 129) hx hb dX1_needs_124 (by decide) ?_
            exact W.iret hx hb hr (fun t ht hW => ⟨⟨_, (), rfl, (by show ((mGt (mGt (mTab F (F 4 g) (F 4 h)) (mTab F (F 4 g) (F 5 h))) (mGt (mTab F (F 5 g) (F 4 h)) (mTab F (F 5 g) (F 5 h)))) - 1) = mNeed F g h; first | (simp only [mNeed, mGreat, c_86, c_94, eq_false c_101, c_109, c_117, reduceIte, Bool.false_eq_true, Bool.true_eq_false]; done) | (simp [mNeed, mGreat, c_86, c_94, eq_false c_101, c_109, c_117]; done)), trivial⟩, hS.F ht⟩) hS.2.2 dX1_needs_129
    · have c_94 := bi_n0.mp c_94
      refine lv_iconst (v := 0) hx hb dX1_needs_97 (by decide) ?_
      exact W.iret hx hb hr (fun t ht hW => ⟨⟨_, (), rfl, (by show 0 = mNeed F g h; first | (simp only [mNeed, mGreat, c_86, c_94, reduceIte, Bool.false_eq_true, Bool.true_eq_false]; done) | (simp [mNeed, mGreat, c_86, c_94]; done)), trivial⟩, hS.F ht⟩) hS.2.2 dX1_needs_98
set_option maxHeartbeats 4000000 in
set_option maxRecDepth 100000 in
theorem c_X1_areFoes (l : Launch) (D : va_G) (q : Nat → Nat) (F : Nat → Nat → Int32) (n : Nat) (R : Nat → Int32) (th : Int32) (cI cZ : ClassId) (g : Nat) (h : Nat) (p : Int32) (hw : WF F n) (hg : g < n) (hh : h < n) : Met l yX1_areFoes wsX1_areFoes ({ frames := 4, cells := 0, slots := 0, locals := 90 }) (va_Pc [.ref (q 9), .int (nI g), .int (nI h), .int p] (rW D (wM q F (nI n) R th cI cZ) (tIZ cI cZ))) (RO (fun r => r = bi (mFoe F g h p))) 0 0 nA := by
  refine ro_of (own := RX1) (cc := cX1_areFoes) (maxL := 4) (ret := (some .boolean)) (by decide) rfl rfl (Nat.le_of_ble_eq_true rfl) ?_
  intro p9 e9 s m9 a9 below meth c9 ls hx hb hr hml hlocks hown hts hP hK hl
  have hin : ∀ w ∈ wsX10, w ∈ wsX1_areFoes := by decide +kernel
  have f32 := hts (.fieldLink RX1 32 "DangerousGoodsModel" "places" "[I") (by decide +kernel)
  have hS : va_S nA s.heap s.heap [] := va_S.rf
  have hl : lv_has ls 4 [(0, .ref (q 9)), (1, .int (nI g)), (2, .int (nI h)), (3, .int p)] := hl
  refine lv_iload_n hx hb dX1_areFoes_0 rfl (lv_at hl 1 rfl) ?_
  refine lv_iload_n hx hb dX1_areFoes_1 rfl (lv_at hl 2 rfl) ?_
  refine lv_icmp_eq (x := (nI g)) (y := (nI h)) (tgt := 38) hx hb dX1_areFoes_2 (by decide) (fun c_2 => ?_) (fun c_2 => ?_)
  · have c_2 : g = h := (nI_eq (by have := hw.g hg; omega) (by have := hw.g hh; omega)).mp c_2
    refine lv_iconst (v := 0) hx hb dX1_areFoes_38 (by decide) ?_
    exact W.zret hx hb hr zn0 (fun t ht hW => ⟨⟨_, (), rfl, (by show 0 = bi (mFoe F g h p); first | (simp only [bi, mFoe, eq_true c_2, reduceIte, Bool.false_eq_true, Bool.true_eq_false]; done) | (simp [bi, mFoe, eq_true c_2]; done)), trivial⟩, hS.F ht⟩) hS.2.2 dX1_areFoes_39
  · have c_2 : ¬ g = h := fun k => c_2 (by rw [k])
    refine lv_aload_n hx hb dX1_areFoes_5 rfl (lv_at hl 0 rfl) ?_
    refine va_get (D := D) (ci := 1) (v := .ref (q 7)) hx hb hts hin hown hK hP 0 rfl rfl 8 (by decide) f32 (fun _ h9 => h9) rfl dX1_areFoes_6 ?_
    refine lv_iload_n hx hb dX1_areFoes_9 rfl (lv_at hl 2 rfl) ?_
    refine xiald hx hb hK hP 8 0 rfl rfl (g := h) (hw.g hh) (by decide) dX1_areFoes_10 ?_
    refine lv_iconst (v := (-1)) hx hb dX1_areFoes_11 (by decide) ?_
    refine lv_icmp_eq (x := (F 7 h)) (y := (-1)) (tgt := 38) hx hb dX1_areFoes_12 (by decide) (fun c_12 => ?_) (fun c_12 => ?_)
    · skip
      refine lv_iconst (v := 0) hx hb dX1_areFoes_38 (by decide) ?_
      exact W.zret hx hb hr zn0 (fun t ht hW => ⟨⟨_, (), rfl, (by show 0 = bi (mFoe F g h p); first | (simp only [bi, mFoe, eq_false c_2, eq_true c_12, reduceIte, Bool.false_eq_true, Bool.true_eq_false]; done) | (simp [bi, mFoe, eq_false c_2, eq_true c_12]; done)), trivial⟩, hS.F ht⟩) hS.2.2 dX1_areFoes_39
    · skip
      refine lv_iload_n hx hb dX1_areFoes_15 rfl (lv_at hl 3 rfl) ?_
      refine lv_aload_n hx hb dX1_areFoes_16 rfl (lv_at hl 0 rfl) ?_
      refine va_get (D := D) (ci := 1) (v := .ref (q 7)) hx hb hts hin hown hK hP 0 rfl rfl 8 (by decide) f32 (fun _ h9 => h9) rfl dX1_areFoes_17 ?_
      refine lv_iload_n hx hb dX1_areFoes_20 rfl (lv_at hl 2 rfl) ?_
      refine xiald hx hb hK hP 8 0 rfl rfl (g := h) (hw.g hh) (by decide) dX1_areFoes_21 ?_
      refine ro_S (As := [.int p, .int (F 7 h)]) (rest := []) ⟨hx, hb, hml, hown, hts⟩ (c_X1_apart l p (F 7 h)) (va_cwS 2 hts gX1_areFoes_X1_apart rfl rfl rfl (by decide +kernel) ⟨Nat.le_of_ble_eq_true rfl, Nat.le_of_ble_eq_true rfl⟩) hP hS rfl hl.1 rfl (Nat.le_of_ble_eq_true rfl) dX1_areFoes_22 ⟨Nat.le_of_ble_eq_true rfl, Nat.le_of_ble_eq_true rfl⟩ (fun r H locs hr9 hP hS => ?_)
      subst hr9
      refine lv_aload_n hx hb dX1_areFoes_25 rfl (lv_at hl 0 rfl) ?_
      refine lv_iload_n hx hb dX1_areFoes_26 rfl (lv_at hl 1 rfl) ?_
      refine lv_iload_n hx hb dX1_areFoes_27 rfl (lv_at hl 2 rfl) ?_
      refine ro_V (As := [.int (nI g), .int (nI h)]) (rest := [.int (mApart p (F 7 h))]) ⟨hx, hb, hml, hown, hts⟩ (c_X1_needs l D q F n R th cI cZ g h hw hg hh) (cwV 2 hts gX1_areFoes_X1_needs rfl rfl rfl (by decide +kernel) ⟨Nat.le_of_ble_eq_true rfl, Nat.le_of_ble_eq_true rfl⟩) hK hP hP (va_recv hK hP (ci := 1) (q0 := 0) rfl rfl) hS rfl hl.1 rfl (Nat.le_of_ble_eq_true rfl) dX1_areFoes_28 ⟨Nat.le_of_ble_eq_true rfl, Nat.le_of_ble_eq_true rfl⟩ (fun r H locs hr9 hP hS => ?_)
      subst hr9
      refine lv_icmp_ge (x := (mApart p (F 7 h))) (y := (mNeed F g h)) (tgt := 38) hx hb dX1_areFoes_31 (by decide) (fun c_31 => ?_) (fun c_31 => ?_)
      · skip
        refine lv_iconst (v := 0) hx hb dX1_areFoes_38 (by decide) ?_
        exact W.zret hx hb hr zn0 (fun t ht hW => ⟨⟨_, (), rfl, (by show 0 = bi (mFoe F g h p); first | (simp only [bi, mFoe, eq_false c_2, eq_false c_12, eq_true c_31, reduceIte, Bool.false_eq_true, Bool.true_eq_false]; done) | (simp [bi, mFoe, eq_false c_2, eq_false c_12, eq_true c_31]; done)), trivial⟩, hS.F ht⟩) hS.2.2 dX1_areFoes_39
      · skip
        refine lv_iconst (v := 1) hx hb dX1_areFoes_34 (by decide) ?_
        refine lv_goto (tgt := 39) hx hb dX1_areFoes_35 (by decide) ?_
        exact W.zret hx hb hr zn1 (fun t ht hW => ⟨⟨_, (), rfl, (by show 1 = bi (mFoe F g h p); first | (simp only [bi, mFoe, eq_false c_2, eq_false c_12, eq_false c_31, reduceIte, Bool.false_eq_true, Bool.true_eq_false]; done) | (simp [bi, mFoe, eq_false c_2, eq_false c_12, eq_false c_31]; done)), trivial⟩, hS.F ht⟩) hS.2.2 dX1_areFoes_39
set_option maxHeartbeats 4000000 in
set_option maxRecDepth 100000 in
theorem c_X1_areWrong (l : Launch) (D : va_G) (q : Nat → Nat) (F : Nat → Nat → Int32) (n : Nat) (R : Nat → Int32) (th : Int32) (cI cZ : ClassId) (g : Nat) (p : Int32) (hw : WF F n) (hg : g < n) (hp : okP p) (hp1 : ¬ p = -1) : Met l yX1_areWrong wsX1_areWrong ({ frames := 2, cells := 0, slots := 0, locals := 44 }) (va_Pc [.ref (q 9), .int (nI g), .int p] (rW D (wM q F (nI n) R th cI cZ) (tIZ cI cZ))) (RO (fun r => r = bi (mWrong F g p))) 0 0 nA := by
  refine ro_of (own := RX1) (cc := cX1_areWrong) (maxL := 5) (ret := (some .boolean)) (by decide) rfl rfl (Nat.le_of_ble_eq_true rfl) ?_
  intro p9 e9 s m9 a9 below meth c9 ls hx hb hr hml hlocks hown hts hP hK hl
  have hin : ∀ w ∈ wsX10, w ∈ wsX1_areWrong := by decide +kernel
  have f19 := hts (.fieldLink RX1 19 "DangerousGoodsModel" "isBarred" "[Z") (by decide +kernel)
  have f23 := hts (.fieldLink RX1 23 "DangerousGoodsModel" "classes" "[I") (by decide +kernel)
  have f26 := hts (.fieldLink RX1 26 "DangerousGoodsModel" "subsidiaries" "[I") (by decide +kernel)
  have hS : va_S nA s.heap s.heap [] := va_S.rf
  have hl : lv_has ls 5 [(0, .ref (q 9)), (1, .int (nI g)), (2, .int p)] := hl
  refine lv_aload_n hx hb dX1_areWrong_0 rfl (lv_at hl 0 rfl) ?_
  refine va_get (D := D) (ci := 1) (v := .ref (q 5)) hx hb hts hin hown hK hP 0 rfl rfl 6 (by decide) f26 (fun _ h9 => h9) rfl dX1_areWrong_1 ?_
  refine lv_iload_n hx hb dX1_areWrong_4 rfl (lv_at hl 1 rfl) ?_
  refine xiald hx hb hK hP 6 0 rfl rfl (g := g) (hw.g hg) (by decide) dX1_areWrong_5 ?_
  refine lv_istore_n (lv' := [(3, .int (F 5 g)), (0, .ref (q 9)), (1, .int (nI g)), (2, .int p)]) hx hb dX1_areWrong_6 rfl hl (by decide) rfl (fun ls hl => ?_)
  refine lv_aload_n hx hb dX1_areWrong_7 rfl (lv_at hl 1 rfl) ?_
  refine va_get (D := D) (ci := 1) (v := .ref (q 3)) hx hb hts hin hown hK hP 0 rfl rfl 3 (by decide) f19 (fun _ h9 => h9) rfl dX1_areWrong_8 ?_
  refine lv_iconst (v := 2) hx hb dX1_areWrong_11 (by decide) ?_
  refine lv_aload_n hx hb dX1_areWrong_12 rfl (lv_at hl 1 rfl) ?_
  refine va_get (D := D) (ci := 1) (v := .ref (q 4)) hx hb hts hin hown hK hP 0 rfl rfl 5 (by decide) f23 (fun _ h9 => h9) rfl dX1_areWrong_13 ?_
  refine lv_iload_n hx hb dX1_areWrong_16 rfl (lv_at hl 2 rfl) ?_
  refine xiald hx hb hK hP 5 0 rfl rfl (g := g) (hw.g hg) (by decide) dX1_areWrong_17 ?_
  refine lv_imul hx hb (x := 2) (y := (F 4 g)) dX1_areWrong_18 ?_
  refine lv_iload_n hx hb dX1_areWrong_19 rfl (lv_at hl 3 rfl) ?_
  refine lv_iconst (v := 2) hx hb dX1_areWrong_20 (by decide) ?_
  refine lv_irem hx hb (x := p) (y := 2) dX1_areWrong_21 (by decide) ?_
  refine lv_iadd hx hb (x := (2 * (F 4 g))) (y := (p - p / 2 * 2)) dX1_areWrong_22 ?_
  refine va_zald hx hb hK hP 4 1 rfl rfl (i := ((2 * (F 4 g)) + (p - p / 2 * 2))) (bar_in2 (hw.c4 hg) (hw.c4n hg) (deck_01 hp hp1)) dX1_areWrong_23 ?_
  refine lv_if_ne (x := (F 3 ((2 * (F 4 g)) + (p - p / 2 * 2)).toNatClampNeg)) (tgt := 47) hx hb dX1_areWrong_24 (by decide) (fun c_24 => ?_) (fun c_24 => ?_)
  · skip
    refine lv_iconst (v := 1) hx hb dX1_areWrong_47 (by decide) ?_
    refine lv_goto (tgt := 52) hx hb dX1_areWrong_48 (by decide) ?_
    refine lv_istore (lv' := [(4, .int 1), (3, .int (F 5 g)), (0, .ref (q 9)), (1, .int (nI g)), (2, .int p)]) hx hb dX1_areWrong_52 hl (by decide) rfl (fun ls hl => ?_)
    refine lv_iload hx hb dX1_areWrong_54 (lv_at hl 0 rfl) ?_
    refine lv_if_eq (x := 1) (tgt := 71) hx hb dX1_areWrong_56 (by decide) (fun k => absurd k (by decide)) (fun _ => ?_)
    refine lv_aload_n hx hb dX1_areWrong_59 rfl (lv_at hl 2 rfl) ?_
    refine lv_iload_n hx hb dX1_areWrong_60 rfl (lv_at hl 3 rfl) ?_
    refine ro_V (As := [.int (nI g)]) (rest := []) ⟨hx, hb, hml, hown, hts⟩ (c_X1_areExcepted l D q F n R th cI cZ g hw hg) (cwV 1 hts gX1_areWrong_X1_areExcepted rfl rfl rfl (by decide +kernel) ⟨Nat.le_of_ble_eq_true rfl, Nat.le_of_ble_eq_true rfl⟩) hK hP hP (va_recv hK hP (ci := 1) (q0 := 0) rfl rfl) hS rfl hl.1 rfl (Nat.le_of_ble_eq_true rfl) dX1_areWrong_61 ⟨Nat.le_of_ble_eq_true rfl, Nat.le_of_ble_eq_true rfl⟩ (fun r H locs hr9 hP hS => ?_)
    subst hr9
    refine lv_if_ne (x := (bi (sExc F g))) (tgt := 71) hx hb dX1_areWrong_64 (by decide) (fun c_64 => ?_) (fun c_64 => ?_)
    · have c_64 := bi_n0.mp c_64
      refine lv_iconst (v := 0) hx hb dX1_areWrong_71 (by decide) ?_
      exact W.zret hx hb hr zn0 (fun t ht hW => ⟨⟨_, (), rfl, (by show 0 = bi (mWrong F g p); first | (simp only [bi, mWrong, mBar2, sDeck, eq_false c_24, c_64, reduceIte, Bool.false_eq_true, Bool.true_eq_false]; done) | (simp [bi, mWrong, mBar2, sDeck, eq_false c_24, c_64]; done)), trivial⟩, hS.F ht⟩) hS.2.2 dX1_areWrong_72
    · have c_64 := bi_e0.mp c_64
      refine lv_iconst (v := 1) hx hb dX1_areWrong_67 (by decide) ?_
      refine lv_goto (tgt := 72) hx hb dX1_areWrong_68 (by decide) ?_
      exact W.zret hx hb hr zn1 (fun t ht hW => ⟨⟨_, (), rfl, (by show 1 = bi (mWrong F g p); first | (simp only [bi, mWrong, mBar2, sDeck, eq_false c_24, c_64, reduceIte, Bool.false_eq_true, Bool.true_eq_false]; done) | (simp [bi, mWrong, mBar2, sDeck, eq_false c_24, c_64]; done)), trivial⟩, hS.F ht⟩) hS.2.2 dX1_areWrong_72
  · skip
    refine lv_iload_n hx hb dX1_areWrong_27 rfl (lv_at hl 0 rfl) ?_
    refine lv_iconst (v := (-1)) hx hb dX1_areWrong_28 (by decide) ?_
    refine lv_icmp_eq (x := (F 5 g)) (y := (-1)) (tgt := 51) hx hb dX1_areWrong_29 (by decide) (fun c_29 => ?_) (fun c_29 => ?_)
    · skip
      refine lv_iconst (v := 0) hx hb dX1_areWrong_51 (by decide) ?_
      refine lv_istore (lv' := [(4, .int 0), (3, .int (F 5 g)), (0, .ref (q 9)), (1, .int (nI g)), (2, .int p)]) hx hb dX1_areWrong_52 hl (by decide) rfl (fun ls hl => ?_)
      refine lv_iload hx hb dX1_areWrong_54 (lv_at hl 0 rfl) ?_
      refine lv_if_eq (x := 0) (tgt := 71) hx hb dX1_areWrong_56 (by decide) (fun _ => ?_) (fun k => absurd (by decide) k)
      refine lv_iconst (v := 0) hx hb dX1_areWrong_71 (by decide) ?_
      exact W.zret hx hb hr zn0 (fun t ht hW => ⟨⟨_, (), rfl, (by show 0 = bi (mWrong F g p); first | (simp only [bi, mWrong, mBar2, sDeck, eq_true c_24, eq_true c_29, reduceIte, Bool.false_eq_true, Bool.true_eq_false]; done) | (simp [bi, mWrong, mBar2, sDeck, eq_true c_24, eq_true c_29]; done)), trivial⟩, hS.F ht⟩) hS.2.2 dX1_areWrong_72
    · skip
      refine lv_aload_n hx hb dX1_areWrong_32 rfl (lv_at hl 1 rfl) ?_
      refine va_get (D := D) (ci := 1) (v := .ref (q 3)) hx hb hts hin hown hK hP 0 rfl rfl 3 (by decide) f19 (fun _ h9 => h9) rfl dX1_areWrong_33 ?_
      refine lv_iconst (v := 2) hx hb dX1_areWrong_36 (by decide) ?_
      refine lv_iload_n hx hb dX1_areWrong_37 rfl (lv_at hl 0 rfl) ?_
      refine lv_imul hx hb (x := 2) (y := (F 5 g)) dX1_areWrong_38 ?_
      refine lv_iload_n hx hb dX1_areWrong_39 rfl (lv_at hl 3 rfl) ?_
      refine lv_iconst (v := 2) hx hb dX1_areWrong_40 (by decide) ?_
      refine lv_irem hx hb (x := p) (y := 2) dX1_areWrong_41 (by decide) ?_
      refine lv_iadd hx hb (x := (2 * (F 5 g))) (y := (p - p / 2 * 2)) dX1_areWrong_42 ?_
      refine va_zald hx hb hK hP 4 1 rfl rfl (i := ((2 * (F 5 g)) + (p - p / 2 * 2))) (bar_in2 (hw.c5 hg) c_29 (deck_01 hp hp1)) dX1_areWrong_43 ?_
      refine lv_if_eq (x := (F 3 ((2 * (F 5 g)) + (p - p / 2 * 2)).toNatClampNeg)) (tgt := 51) hx hb dX1_areWrong_44 (by decide) (fun c_44 => ?_) (fun c_44 => ?_)
      · skip
        refine lv_iconst (v := 0) hx hb dX1_areWrong_51 (by decide) ?_
        refine lv_istore (lv' := [(4, .int 0), (3, .int (F 5 g)), (0, .ref (q 9)), (1, .int (nI g)), (2, .int p)]) hx hb dX1_areWrong_52 hl (by decide) rfl (fun ls hl => ?_)
        refine lv_iload hx hb dX1_areWrong_54 (lv_at hl 0 rfl) ?_
        refine lv_if_eq (x := 0) (tgt := 71) hx hb dX1_areWrong_56 (by decide) (fun _ => ?_) (fun k => absurd (by decide) k)
        refine lv_iconst (v := 0) hx hb dX1_areWrong_71 (by decide) ?_
        exact W.zret hx hb hr zn0 (fun t ht hW => ⟨⟨_, (), rfl, (by show 0 = bi (mWrong F g p); first | (simp only [bi, mWrong, mBar2, sDeck, eq_true c_24, eq_false c_29, eq_true c_44, reduceIte, Bool.false_eq_true, Bool.true_eq_false]; done) | (simp [bi, mWrong, mBar2, sDeck, eq_true c_24, eq_false c_29, eq_true c_44]; done)), trivial⟩, hS.F ht⟩) hS.2.2 dX1_areWrong_72
      · skip
        refine lv_iconst (v := 1) hx hb dX1_areWrong_47 (by decide) ?_
        refine lv_goto (tgt := 52) hx hb dX1_areWrong_48 (by decide) ?_
        refine lv_istore (lv' := [(4, .int 1), (3, .int (F 5 g)), (0, .ref (q 9)), (1, .int (nI g)), (2, .int p)]) hx hb dX1_areWrong_52 hl (by decide) rfl (fun ls hl => ?_)
        refine lv_iload hx hb dX1_areWrong_54 (lv_at hl 0 rfl) ?_
        refine lv_if_eq (x := 1) (tgt := 71) hx hb dX1_areWrong_56 (by decide) (fun k => absurd k (by decide)) (fun _ => ?_)
        refine lv_aload_n hx hb dX1_areWrong_59 rfl (lv_at hl 2 rfl) ?_
        refine lv_iload_n hx hb dX1_areWrong_60 rfl (lv_at hl 3 rfl) ?_
        refine ro_V (As := [.int (nI g)]) (rest := []) ⟨hx, hb, hml, hown, hts⟩ (c_X1_areExcepted l D q F n R th cI cZ g hw hg) (cwV 1 hts gX1_areWrong_X1_areExcepted rfl rfl rfl (by decide +kernel) ⟨Nat.le_of_ble_eq_true rfl, Nat.le_of_ble_eq_true rfl⟩) hK hP hP (va_recv hK hP (ci := 1) (q0 := 0) rfl rfl) hS rfl hl.1 rfl (Nat.le_of_ble_eq_true rfl) dX1_areWrong_61 ⟨Nat.le_of_ble_eq_true rfl, Nat.le_of_ble_eq_true rfl⟩ (fun r H locs hr9 hP hS => ?_)
        subst hr9
        refine lv_if_ne (x := (bi (sExc F g))) (tgt := 71) hx hb dX1_areWrong_64 (by decide) (fun c_64 => ?_) (fun c_64 => ?_)
        · have c_64 := bi_n0.mp c_64
          refine lv_iconst (v := 0) hx hb dX1_areWrong_71 (by decide) ?_
          exact W.zret hx hb hr zn0 (fun t ht hW => ⟨⟨_, (), rfl, (by show 0 = bi (mWrong F g p); first | (simp only [bi, mWrong, mBar2, sDeck, eq_true c_24, eq_false c_29, eq_false c_44, c_64, reduceIte, Bool.false_eq_true, Bool.true_eq_false]; done) | (simp [bi, mWrong, mBar2, sDeck, eq_true c_24, eq_false c_29, eq_false c_44, c_64]; done)), trivial⟩, hS.F ht⟩) hS.2.2 dX1_areWrong_72
        · have c_64 := bi_e0.mp c_64
          refine lv_iconst (v := 1) hx hb dX1_areWrong_67 (by decide) ?_
          refine lv_goto (tgt := 72) hx hb dX1_areWrong_68 (by decide) ?_
          exact W.zret hx hb hr zn1 (fun t ht hW => ⟨⟨_, (), rfl, (by show 1 = bi (mWrong F g p); first | (simp only [bi, mWrong, mBar2, sDeck, eq_true c_24, eq_false c_29, eq_false c_44, c_64, reduceIte, Bool.false_eq_true, Bool.true_eq_false]; done) | (simp [bi, mWrong, mBar2, sDeck, eq_true c_24, eq_false c_29, eq_false c_44, c_64]; done)), trivial⟩, hS.F ht⟩) hS.2.2 dX1_areWrong_72
set_option maxHeartbeats 4000000 in
set_option maxRecDepth 100000 in
theorem c_X1_foesOf (l : Launch) (D : va_G) (q : Nat → Nat) (F : Nat → Nat → Int32) (n : Nat) (R : Nat → Int32) (th : Int32) (cI cZ : ClassId) (g : Nat) (hw : WF F n) (hg : g < n) : Met l yX1_foesOf wsX1_foesOf ({ frames := 5, cells := 0, slots := 0, locals := 113 }) (va_Pc [.ref (q 9), .int (nI g)] (rW D (wM q F (nI n) R th cI cZ) (tIZ cI cZ))) (RO (fun r => r = nI (mFoes F n g))) 0 0 nA := by
  refine ro_of (own := RX1) (cc := cX1_foesOf) (maxL := 4) (ret := (some .int)) (by decide) rfl rfl (Nat.le_of_ble_eq_true rfl) ?_
  intro p9 e9 s m9 a9 below meth c9 ls hx hb hr hml hlocks hown hts hP hK hl
  have hin : ∀ w ∈ wsX10, w ∈ wsX1_foesOf := by decide +kernel
  have f32 := hts (.fieldLink RX1 32 "DangerousGoodsModel" "places" "[I") (by decide +kernel)
  have f46 := hts (.fieldLink RX1 46 "DangerousGoodsModel" "goods" "I") (by decide +kernel)
  have hS : va_S nA s.heap s.heap [] := va_S.rf
  have hl : lv_has ls 4 [(0, .ref (q 9)), (1, .int (nI g))] := hl
  refine lv_iconst (v := 0) hx hb dX1_foesOf_0 (by decide) ?_
  refine lv_istore_n (lv' := [(2, .int 0), (0, .ref (q 9)), (1, .int (nI g))]) hx hb dX1_foesOf_1 rfl hl (by decide) rfl (fun ls hl => ?_)
  refine lv_iconst (v := 0) hx hb dX1_foesOf_2 (by decide) ?_
  refine lv_istore_n (lv' := [(3, .int 0), (2, .int 0), (0, .ref (q 9)), (1, .int (nI g))]) hx hb dX1_foesOf_3 rfl hl (by decide) rfl (fun ls hl => ?_)
  have L4 : ∀ (d9 : Nat) (k : Nat) (H : Heap) (locs : List Loc) (ls : Array Slot), n - k < d9 → k ≤ n → va_P D vwCl (wM q F (nI n) R th cI cZ) H → va_S nA s.heap H locs → lv_has ls 4 [(3, .int (nI k)), (2, .int (nI (bs (fun h => if F 7 g = -1 then false else mFoe F g h (F 7 g)) k))), (0, .ref (q 9)), (1, .int (nI g))] → W p9 l e9 ({ frames := 5, cells := 0, slots := 0, locals := 113 }) s m9 a9 below meth c9 H locs 0 0 (MQ below (RO (fun r => r = nI (mFoes F n g))) a9 s 0 0 nA) (F0 m9 4 ls []) := by
    intro d9
    induction d9 with
    | zero => intro k H locs ls h9; exact absurd h9 (Nat.not_lt_zero _)
    | succ d9 ih4 =>
      intro k H locs ls hd4 hk hP hS hl
      refine lv_iload_n hx hb dX1_foesOf_4 rfl (lv_at hl 0 rfl) ?_
      refine lv_aload_n hx hb dX1_foesOf_5 rfl (lv_at hl 2 rfl) ?_
      refine va_get (D := D) (ci := 1) (v := .int (nI n)) hx hb hts hin hown hK hP 0 rfl rfl 4 (by decide) f46 (fun _ h9 => h9) rfl dX1_foesOf_6 ?_
      refine lv_icmp_ge (x := (nI k)) (y := (nI n)) (tgt := 53) hx hb dX1_foesOf_9 (by decide) (fun c_9 => ?_) (fun c_9 => ?_)
      · have hk9 : k = n := Nat.le_antisymm hk (nI_ge_of c_9 (by have := hw.n; omega) (by have := hw.n; omega))
        refine lv_iload_n hx hb dX1_foesOf_53 rfl (lv_at hl 1 rfl) ?_
        exact W.iret hx hb hr (fun t ht hW => ⟨⟨_, (), rfl, (by show (nI (bs (fun h => if F 7 g = -1 then false else mFoe F g h (F 7 g)) k)) = nI (mFoes F n g); rw [← hk9]; rfl), trivial⟩, hS.F ht⟩) hS.2.2 dX1_foesOf_54
      · have hk9 : k < n := nI_lt_of c_9 (by have := hw.n; omega)
        refine lv_iload_n hx hb dX1_foesOf_12 rfl (lv_at hl 1 rfl) ?_
        refine lv_aload_n hx hb dX1_foesOf_13 rfl (lv_at hl 2 rfl) ?_
        refine va_get (D := D) (ci := 1) (v := .ref (q 7)) hx hb hts hin hown hK hP 0 rfl rfl 8 (by decide) f32 (fun _ h9 => h9) rfl dX1_foesOf_14 ?_
        refine lv_iload_n hx hb dX1_foesOf_17 rfl (lv_at hl 3 rfl) ?_
        refine xiald hx hb hK hP 8 0 rfl rfl (g := g) (hw.g hg) (by decide) dX1_foesOf_18 ?_
        refine lv_iconst (v := (-1)) hx hb dX1_foesOf_19 (by decide) ?_
        refine lv_icmp_eq (x := (F 7 g)) (y := (-1)) (tgt := 44) hx hb dX1_foesOf_20 (by decide) (fun c_20 => ?_) (fun c_20 => ?_)
        · skip
          refine lv_iconst (v := 0) hx hb dX1_foesOf_44 (by decide) ?_
          refine lv_ior hx hb (x := (nI (bs (fun h => if F 7 g = -1 then false else mFoe F g h (F 7 g)) k))) (y := 0) dX1_foesOf_45 ?_
          refine lv_istore_n (lv' := [(2, .int ((nI (bs (fun h => if F 7 g = -1 then false else mFoe F g h (F 7 g)) k)) ||| 0)), (3, .int (nI k)), (0, .ref (q 9)), (1, .int (nI g))]) hx hb dX1_foesOf_46 rfl hl (by decide) rfl (fun ls hl => ?_)
          refine lv_iinc (v := (nI (k + 1))) (lv' := [(3, .int (nI (k + 1))), (2, .int ((nI (bs (fun h => if F 7 g = -1 then false else mFoe F g h (F 7 g)) k)) ||| 0)), (0, .ref (q 9)), (1, .int (nI g))]) hx hb dX1_foesOf_47 hl (k := 1) rfl (nI_1 k) (by decide) rfl (fun ls hl => ?_)
          refine lv_goto (tgt := 4) hx hb dX1_foesOf_50 (by decide) ?_
          have e2 : ((nI (bs (fun h => if F 7 g = -1 then false else mFoe F g h (F 7 g)) k)) ||| 0) = nI (bs (fun h => if F 7 g = -1 then false else mFoe F g h (F 7 g)) (k + 1)) := bs_z (by simp [eq_false c_9, eq_true c_20])
          rw [e2] at hl
          exact ih4 (k + 1) _ _ _ (by omega) (by omega) hP hS (lv_sub hl [0, 1, 2, 3] rfl)
        · skip
          refine lv_aload_n hx hb dX1_foesOf_23 rfl (lv_at hl 2 rfl) ?_
          refine lv_iload_n hx hb dX1_foesOf_24 rfl (lv_at hl 3 rfl) ?_
          refine lv_iload_n hx hb dX1_foesOf_25 rfl (lv_at hl 0 rfl) ?_
          refine lv_aload_n hx hb dX1_foesOf_26 rfl (lv_at hl 2 rfl) ?_
          refine va_get (D := D) (ci := 1) (v := .ref (q 7)) hx hb hts hin hown hK hP 0 rfl rfl 8 (by decide) f32 (fun _ h9 => h9) rfl dX1_foesOf_27 ?_
          refine lv_iload_n hx hb dX1_foesOf_30 rfl (lv_at hl 3 rfl) ?_
          refine xiald hx hb hK hP 8 0 rfl rfl (g := g) (hw.g hg) (by decide) dX1_foesOf_31 ?_
          refine ro_V (As := [.int (nI g), .int (nI k), .int (F 7 g)]) (rest := [.int (nI (bs (fun h => if F 7 g = -1 then false else mFoe F g h (F 7 g)) k))]) ⟨hx, hb, hml, hown, hts⟩ (c_X1_areFoes l D q F n R th cI cZ g k (F 7 g) hw hg hk9) (cwV 3 hts gX1_foesOf_X1_areFoes rfl rfl rfl (by decide +kernel) ⟨Nat.le_of_ble_eq_true rfl, Nat.le_of_ble_eq_true rfl⟩) hK hP hP (va_recv hK hP (ci := 1) (q0 := 0) rfl rfl) hS rfl hl.1 rfl (Nat.le_of_ble_eq_true rfl) dX1_foesOf_32 ⟨Nat.le_of_ble_eq_true rfl, Nat.le_of_ble_eq_true rfl⟩ (fun r H locs hr9 hP hS => ?_)
          subst hr9
          refine lv_if_eq (x := (bi (mFoe F g k (F 7 g)))) (tgt := 44) hx hb dX1_foesOf_35 (by decide) (fun c_35 => ?_) (fun c_35 => ?_)
          · have c_35 := bi_e0.mp c_35
            refine lv_iconst (v := 0) hx hb dX1_foesOf_44 (by decide) ?_
            refine lv_ior hx hb (x := (nI (bs (fun h => if F 7 g = -1 then false else mFoe F g h (F 7 g)) k))) (y := 0) dX1_foesOf_45 ?_
            refine lv_istore_n (lv' := [(2, .int ((nI (bs (fun h => if F 7 g = -1 then false else mFoe F g h (F 7 g)) k)) ||| 0)), (3, .int (nI k)), (0, .ref (q 9)), (1, .int (nI g))]) hx hb dX1_foesOf_46 rfl hl (by decide) rfl (fun ls hl => ?_)
            refine lv_iinc (v := (nI (k + 1))) (lv' := [(3, .int (nI (k + 1))), (2, .int ((nI (bs (fun h => if F 7 g = -1 then false else mFoe F g h (F 7 g)) k)) ||| 0)), (0, .ref (q 9)), (1, .int (nI g))]) hx hb dX1_foesOf_47 hl (k := 1) rfl (nI_1 k) (by decide) rfl (fun ls hl => ?_)
            refine lv_goto (tgt := 4) hx hb dX1_foesOf_50 (by decide) ?_
            have e2 : ((nI (bs (fun h => if F 7 g = -1 then false else mFoe F g h (F 7 g)) k)) ||| 0) = nI (bs (fun h => if F 7 g = -1 then false else mFoe F g h (F 7 g)) (k + 1)) := bs_z (by simp [eq_false c_9, eq_false c_20, c_35])
            rw [e2] at hl
            exact ih4 (k + 1) _ _ _ (by omega) (by omega) hP hS (lv_sub hl [0, 1, 2, 3] rfl)
          · have c_35 := bi_n0.mp c_35
            refine lv_iconst (v := 1) hx hb dX1_foesOf_38 (by decide) ?_
            refine lv_iload_n hx hb dX1_foesOf_39 rfl (lv_at hl 0 rfl) ?_
            refine lv_ishl hx hb (x := (1 : Int32)) (y := (nI k)) dX1_foesOf_40 ?_
            refine lv_goto (tgt := 45) hx hb dX1_foesOf_41 (by decide) ?_
            refine lv_ior hx hb (x := (nI (bs (fun h => if F 7 g = -1 then false else mFoe F g h (F 7 g)) k))) (y := ((1 : Int32) <<< ((nI k) &&& 31))) dX1_foesOf_45 ?_
            refine lv_istore_n (lv' := [(2, .int ((nI (bs (fun h => if F 7 g = -1 then false else mFoe F g h (F 7 g)) k)) ||| ((1 : Int32) <<< ((nI k) &&& 31)))), (3, .int (nI k)), (0, .ref (q 9)), (1, .int (nI g))]) hx hb dX1_foesOf_46 rfl hl (by decide) rfl (fun ls hl => ?_)
            refine lv_iinc (v := (nI (k + 1))) (lv' := [(3, .int (nI (k + 1))), (2, .int ((nI (bs (fun h => if F 7 g = -1 then false else mFoe F g h (F 7 g)) k)) ||| ((1 : Int32) <<< ((nI k) &&& 31)))), (0, .ref (q 9)), (1, .int (nI g))]) hx hb dX1_foesOf_47 hl (k := 1) rfl (nI_1 k) (by decide) rfl (fun ls hl => ?_)
            refine lv_goto (tgt := 4) hx hb dX1_foesOf_50 (by decide) ?_
            have e2 : ((nI (bs (fun h => if F 7 g = -1 then false else mFoe F g h (F 7 g)) k)) ||| ((1 : Int32) <<< ((nI k) &&& 31))) = nI (bs (fun h => if F 7 g = -1 then false else mFoe F g h (F 7 g)) (k + 1)) := bs_t (by have := hw.n; omega) (by simp [eq_false c_9, eq_false c_20, c_35])
            rw [e2] at hl
            exact ih4 (k + 1) _ _ _ (by omega) (by omega) hP hS (lv_sub hl [0, 1, 2, 3] rfl)
  exact L4 _ 0 _ _ _ (Nat.lt_succ_self _) (Nat.zero_le _) hP hS (lv_sub hl [0, 1, 2, 3] rfl)
set_option maxHeartbeats 4000000 in
set_option maxRecDepth 100000 in
theorem c_X1_wrongs (l : Launch) (D : va_G) (q : Nat → Nat) (F : Nat → Nat → Int32) (n : Nat) (R : Nat → Int32) (th : Int32) (cI cZ : ClassId) (hw : WF F n) : Met l yX1_wrongs wsX1_wrongs ({ frames := 3, cells := 0, slots := 0, locals := 68 }) (va_Pc [.ref (q 9)] (rW D (wM q F (nI n) R th cI cZ) (tIZ cI cZ))) (RO (fun r => r = nI (mWrongs F n))) 0 0 nA := by
  refine ro_of (own := RX1) (cc := cX1_wrongs) (maxL := 3) (ret := (some .int)) (by decide) rfl rfl (Nat.le_of_ble_eq_true rfl) ?_
  intro p9 e9 s m9 a9 below meth c9 ls hx hb hr hml hlocks hown hts hP hK hl
  have hin : ∀ w ∈ wsX10, w ∈ wsX1_wrongs := by decide +kernel
  have f32 := hts (.fieldLink RX1 32 "DangerousGoodsModel" "places" "[I") (by decide +kernel)
  have f46 := hts (.fieldLink RX1 46 "DangerousGoodsModel" "goods" "I") (by decide +kernel)
  have hS : va_S nA s.heap s.heap [] := va_S.rf
  have hl : lv_has ls 3 [(0, .ref (q 9))] := hl
  refine lv_iconst (v := 0) hx hb dX1_wrongs_0 (by decide) ?_
  refine lv_istore_n (lv' := [(1, .int 0), (0, .ref (q 9))]) hx hb dX1_wrongs_1 rfl hl (by decide) rfl (fun ls hl => ?_)
  refine lv_iconst (v := 0) hx hb dX1_wrongs_2 (by decide) ?_
  refine lv_istore_n (lv' := [(2, .int 0), (1, .int 0), (0, .ref (q 9))]) hx hb dX1_wrongs_3 rfl hl (by decide) rfl (fun ls hl => ?_)
  have L4 : ∀ (d9 : Nat) (k : Nat) (H : Heap) (locs : List Loc) (ls : Array Slot), n - k < d9 → k ≤ n → va_P D vwCl (wM q F (nI n) R th cI cZ) H → va_S nA s.heap H locs → lv_has ls 3 [(2, .int (nI k)), (1, .int (nI (bs (fun g => if F 7 g = -1 then false else mWrong F g (F 7 g)) k))), (0, .ref (q 9))] → W p9 l e9 ({ frames := 3, cells := 0, slots := 0, locals := 68 }) s m9 a9 below meth c9 H locs 0 0 (MQ below (RO (fun r => r = nI (mWrongs F n))) a9 s 0 0 nA) (F0 m9 4 ls []) := by
    intro d9
    induction d9 with
    | zero => intro k H locs ls h9; exact absurd h9 (Nat.not_lt_zero _)
    | succ d9 ih4 =>
      intro k H locs ls hd4 hk hP hS hl
      refine lv_iload_n hx hb dX1_wrongs_4 rfl (lv_at hl 0 rfl) ?_
      refine lv_aload_n hx hb dX1_wrongs_5 rfl (lv_at hl 2 rfl) ?_
      refine va_get (D := D) (ci := 1) (v := .int (nI n)) hx hb hts hin hown hK hP 0 rfl rfl 4 (by decide) f46 (fun _ h9 => h9) rfl dX1_wrongs_6 ?_
      refine lv_icmp_ge (x := (nI k)) (y := (nI n)) (tgt := 52) hx hb dX1_wrongs_9 (by decide) (fun c_9 => ?_) (fun c_9 => ?_)
      · have hk9 : k = n := Nat.le_antisymm hk (nI_ge_of c_9 (by have := hw.n; omega) (by have := hw.n; omega))
        refine lv_iload_n hx hb dX1_wrongs_52 rfl (lv_at hl 1 rfl) ?_
        exact W.iret hx hb hr (fun t ht hW => ⟨⟨_, (), rfl, (by show (nI (bs (fun g => if F 7 g = -1 then false else mWrong F g (F 7 g)) k)) = nI (mWrongs F n); rw [← hk9]; rfl), trivial⟩, hS.F ht⟩) hS.2.2 dX1_wrongs_53
      · have hk9 : k < n := nI_lt_of c_9 (by have := hw.n; omega)
        refine lv_iload_n hx hb dX1_wrongs_12 rfl (lv_at hl 1 rfl) ?_
        refine lv_aload_n hx hb dX1_wrongs_13 rfl (lv_at hl 2 rfl) ?_
        refine va_get (D := D) (ci := 1) (v := .ref (q 7)) hx hb hts hin hown hK hP 0 rfl rfl 8 (by decide) f32 (fun _ h9 => h9) rfl dX1_wrongs_14 ?_
        refine lv_iload_n hx hb dX1_wrongs_17 rfl (lv_at hl 0 rfl) ?_
        refine xiald hx hb hK hP 8 0 rfl rfl (g := k) (hw.g hk9) (by decide) dX1_wrongs_18 ?_
        refine lv_iconst (v := (-1)) hx hb dX1_wrongs_19 (by decide) ?_
        refine lv_icmp_eq (x := (F 7 k)) (y := (-1)) (tgt := 43) hx hb dX1_wrongs_20 (by decide) (fun c_20 => ?_) (fun c_20 => ?_)
        · skip
          refine lv_iconst (v := 0) hx hb dX1_wrongs_43 (by decide) ?_
          refine lv_ior hx hb (x := (nI (bs (fun g => if F 7 g = -1 then false else mWrong F g (F 7 g)) k))) (y := 0) dX1_wrongs_44 ?_
          refine lv_istore_n (lv' := [(1, .int ((nI (bs (fun g => if F 7 g = -1 then false else mWrong F g (F 7 g)) k)) ||| 0)), (2, .int (nI k)), (0, .ref (q 9))]) hx hb dX1_wrongs_45 rfl hl (by decide) rfl (fun ls hl => ?_)
          refine lv_iinc (v := (nI (k + 1))) (lv' := [(2, .int (nI (k + 1))), (1, .int ((nI (bs (fun g => if F 7 g = -1 then false else mWrong F g (F 7 g)) k)) ||| 0)), (0, .ref (q 9))]) hx hb dX1_wrongs_46 hl (k := 1) rfl (nI_1 k) (by decide) rfl (fun ls hl => ?_)
          refine lv_goto (tgt := 4) hx hb dX1_wrongs_49 (by decide) ?_
          have e1 : ((nI (bs (fun g => if F 7 g = -1 then false else mWrong F g (F 7 g)) k)) ||| 0) = nI (bs (fun g => if F 7 g = -1 then false else mWrong F g (F 7 g)) (k + 1)) := bs_z (by simp [eq_false c_9, eq_true c_20])
          rw [e1] at hl
          exact ih4 (k + 1) _ _ _ (by omega) (by omega) hP hS (lv_sub hl [0, 1, 2] rfl)
        · skip
          refine lv_aload_n hx hb dX1_wrongs_23 rfl (lv_at hl 2 rfl) ?_
          refine lv_iload_n hx hb dX1_wrongs_24 rfl (lv_at hl 0 rfl) ?_
          refine lv_aload_n hx hb dX1_wrongs_25 rfl (lv_at hl 2 rfl) ?_
          refine va_get (D := D) (ci := 1) (v := .ref (q 7)) hx hb hts hin hown hK hP 0 rfl rfl 8 (by decide) f32 (fun _ h9 => h9) rfl dX1_wrongs_26 ?_
          refine lv_iload_n hx hb dX1_wrongs_29 rfl (lv_at hl 0 rfl) ?_
          refine xiald hx hb hK hP 8 0 rfl rfl (g := k) (hw.g hk9) (by decide) dX1_wrongs_30 ?_
          refine ro_V (As := [.int (nI k), .int (F 7 k)]) (rest := [.int (nI (bs (fun g => if F 7 g = -1 then false else mWrong F g (F 7 g)) k))]) ⟨hx, hb, hml, hown, hts⟩ (c_X1_areWrong l D q F n R th cI cZ k (F 7 k) hw hk9 (hw.p7 hk9) c_20) (cwV 2 hts gX1_wrongs_X1_areWrong rfl rfl rfl (by decide +kernel) ⟨Nat.le_of_ble_eq_true rfl, Nat.le_of_ble_eq_true rfl⟩) hK hP hP (va_recv hK hP (ci := 1) (q0 := 0) rfl rfl) hS rfl hl.1 rfl (Nat.le_of_ble_eq_true rfl) dX1_wrongs_31 ⟨Nat.le_of_ble_eq_true rfl, Nat.le_of_ble_eq_true rfl⟩ (fun r H locs hr9 hP hS => ?_)
          subst hr9
          refine lv_if_eq (x := (bi (mWrong F k (F 7 k)))) (tgt := 43) hx hb dX1_wrongs_34 (by decide) (fun c_34 => ?_) (fun c_34 => ?_)
          · have c_34 := bi_e0.mp c_34
            refine lv_iconst (v := 0) hx hb dX1_wrongs_43 (by decide) ?_
            refine lv_ior hx hb (x := (nI (bs (fun g => if F 7 g = -1 then false else mWrong F g (F 7 g)) k))) (y := 0) dX1_wrongs_44 ?_
            refine lv_istore_n (lv' := [(1, .int ((nI (bs (fun g => if F 7 g = -1 then false else mWrong F g (F 7 g)) k)) ||| 0)), (2, .int (nI k)), (0, .ref (q 9))]) hx hb dX1_wrongs_45 rfl hl (by decide) rfl (fun ls hl => ?_)
            refine lv_iinc (v := (nI (k + 1))) (lv' := [(2, .int (nI (k + 1))), (1, .int ((nI (bs (fun g => if F 7 g = -1 then false else mWrong F g (F 7 g)) k)) ||| 0)), (0, .ref (q 9))]) hx hb dX1_wrongs_46 hl (k := 1) rfl (nI_1 k) (by decide) rfl (fun ls hl => ?_)
            refine lv_goto (tgt := 4) hx hb dX1_wrongs_49 (by decide) ?_
            have e1 : ((nI (bs (fun g => if F 7 g = -1 then false else mWrong F g (F 7 g)) k)) ||| 0) = nI (bs (fun g => if F 7 g = -1 then false else mWrong F g (F 7 g)) (k + 1)) := bs_z (by simp [eq_false c_9, eq_false c_20, c_34])
            rw [e1] at hl
            exact ih4 (k + 1) _ _ _ (by omega) (by omega) hP hS (lv_sub hl [0, 1, 2] rfl)
          · have c_34 := bi_n0.mp c_34
            refine lv_iconst (v := 1) hx hb dX1_wrongs_37 (by decide) ?_
            refine lv_iload_n hx hb dX1_wrongs_38 rfl (lv_at hl 0 rfl) ?_
            refine lv_ishl hx hb (x := (1 : Int32)) (y := (nI k)) dX1_wrongs_39 ?_
            refine lv_goto (tgt := 44) hx hb dX1_wrongs_40 (by decide) ?_
            refine lv_ior hx hb (x := (nI (bs (fun g => if F 7 g = -1 then false else mWrong F g (F 7 g)) k))) (y := ((1 : Int32) <<< ((nI k) &&& 31))) dX1_wrongs_44 ?_
            refine lv_istore_n (lv' := [(1, .int ((nI (bs (fun g => if F 7 g = -1 then false else mWrong F g (F 7 g)) k)) ||| ((1 : Int32) <<< ((nI k) &&& 31)))), (2, .int (nI k)), (0, .ref (q 9))]) hx hb dX1_wrongs_45 rfl hl (by decide) rfl (fun ls hl => ?_)
            refine lv_iinc (v := (nI (k + 1))) (lv' := [(2, .int (nI (k + 1))), (1, .int ((nI (bs (fun g => if F 7 g = -1 then false else mWrong F g (F 7 g)) k)) ||| ((1 : Int32) <<< ((nI k) &&& 31)))), (0, .ref (q 9))]) hx hb dX1_wrongs_46 hl (k := 1) rfl (nI_1 k) (by decide) rfl (fun ls hl => ?_)
            refine lv_goto (tgt := 4) hx hb dX1_wrongs_49 (by decide) ?_
            have e1 : ((nI (bs (fun g => if F 7 g = -1 then false else mWrong F g (F 7 g)) k)) ||| ((1 : Int32) <<< ((nI k) &&& 31))) = nI (bs (fun g => if F 7 g = -1 then false else mWrong F g (F 7 g)) (k + 1)) := bs_t (by have := hw.n; omega) (by simp [eq_false c_9, eq_false c_20, c_34])
            rw [e1] at hl
            exact ih4 (k + 1) _ _ _ (by omega) (by omega) hP hS (lv_sub hl [0, 1, 2] rfl)
  exact L4 _ 0 _ _ _ (Nat.lt_succ_self _) (Nat.zero_le _) hP hS (lv_sub hl [0, 1, 2] rfl)

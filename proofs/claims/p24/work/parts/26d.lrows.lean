/-! the law's methods over rows alone -/
set_option maxHeartbeats 4000000 in
theorem c_L_dice (l : Launch) (b L : Nat) (xs : Nat → Int32) (k : Nat) (hL : L ≤ 260) (hk : k < 100) : Met l yL_dice wsL_dice ({ frames := 0, cells := 0, slots := 0, locals := 0 }) (va_Pc [.ref b, .int (nI k)] (fun U => va_X b L xs U U.heap)) (RO (fun r => ∃ j, j < 2 ^ 31 ∧ r = nI j)) 0 0 nA := by
  refine ro_ofX (own := RL) (cc := cL_dice) (maxL := 2) (ret := (some .int)) (by decide) rfl rfl (Nat.le_of_ble_eq_true rfl) ?_
  intro p9 e9 s m9 a9 below meth c9 ls hx hb hr hml hlocks hown hts hX hl
  have hbl : b < s.heap.size := by obtain ⟨scr, h1, -⟩ := hX; exact (Array.getElem?_eq_some_iff.mp h1).1
  have hS : va_S nA s.heap s.heap [] := va_S.rf
  have hl : lv_has ls 2 [(0, .ref b), (1, .int (nI k))] := hl
  refine lv_iload_n hx hb dL_dice_0 rfl (lv_at hl 1 rfl) ?_
  refine lv_aload_n hx hb dL_dice_1 rfl (lv_at hl 0 rfl) ?_
  refine va_slen hx hb hX hbl (fun h => h) hS dL_dice_2 ?_
  refine W.eq (g2 := F0 m9 3 ls (.int (nI L) :: [.int (nI k)])) (congrArg (fun z => F0 m9 3 ls (Value.int z :: [.int (nI k)])) (rfl)) ?_
  refine lv_icmp_ge (x := (nI k)) (y := (nI L)) (tgt := 12) hx hb dL_dice_3 (by decide) (fun c_3 => ?_) (fun c_3 => ?_)
  · have c_3 := nl_ge (k := k) (n := L) c_3 (by omega) (by omega)
    refine lv_ldc hx hb hown (hts (.constant RL 7 (1359893119)) (by decide +kernel)) dL_dice_12 ?_
    refine lv_iload_n hx hb dL_dice_14 rfl (lv_at hl 1 rfl) ?_
    refine lv_bipush (v := 101) hx hb dL_dice_15 (by decide) ?_
    refine lv_iadd hx hb (x := (nI k)) (y := 101) dL_dice_17 ?_
    refine lv_imul hx hb (x := 1359893119) (y := ((nI k) + 101)) dL_dice_18 ?_
    refine lv_sipush (v := 445) hx hb dL_dice_19 (by decide) ?_
    refine lv_iload_n hx hb dL_dice_22 rfl (lv_at hl 1 rfl) ?_
    refine lv_imul hx hb (x := 445) (y := (nI k)) dL_dice_23 ?_
    refine lv_iload_n hx hb dL_dice_24 rfl (lv_at hl 1 rfl) ?_
    refine lv_imul hx hb (x := (445 * (nI k))) (y := (nI k)) dL_dice_25 ?_
    refine lv_iadd hx hb (x := (1359893119 * ((nI k) + 101))) (y := ((445 * (nI k)) * (nI k))) dL_dice_26 ?_
    refine lv_bipush (v := 37) hx hb dL_dice_27 (by decide) ?_
    refine lv_iadd hx hb (x := ((1359893119 * ((nI k) + 101)) + ((445 * (nI k)) * (nI k)))) (y := 37) dL_dice_29 ?_
    refine lv_ldc hx hb hown (hts (.constant RL 8 (2147483647)) (by decide +kernel)) dL_dice_30 ?_
    refine lv_iand hx hb (x := (((1359893119 * ((nI k) + 101)) + ((445 * (nI k)) * (nI k))) + 37)) (y := 2147483647) dL_dice_32 ?_
    exact W.iret hx hb hr (fun t ht9 hW => ⟨⟨_, (), rfl, (pk_andE (((1359893119 * ((nI k) + 101)) + ((445 * (nI k)) * (nI k))) + 37) (m := 2147483647) 31 (by decide)), trivial⟩, hS.F ht9⟩) hS.2.2 dL_dice_33
  · have c_3 := nl_lt (k := k) (n := L) c_3 (by omega) (by omega)
    refine lv_aload_n hx hb dL_dice_6 rfl (lv_at hl 0 rfl) ?_
    refine lv_iload_n hx hb dL_dice_7 rfl (lv_at hl 1 rfl) ?_
    refine va_sld hx hb hX hbl (fun h => h) hS (i := nI k) (vp_in_nI c_3 (by omega)) dL_dice_8 ?_
    refine lv_goto (tgt := 30) hx hb dL_dice_9 (by decide) ?_
    refine lv_ldc hx hb hown (hts (.constant RL 8 (2147483647)) (by decide +kernel)) dL_dice_30 ?_
    refine lv_iand hx hb (x := (xs (nI k).toNatClampNeg)) (y := 2147483647) dL_dice_32 ?_
    exact W.iret hx hb hr (fun t ht9 hW => ⟨⟨_, (), rfl, (pk_andE (xs (nI k).toNatClampNeg) (m := 2147483647) 31 (by decide)), trivial⟩, hS.F ht9⟩) hS.2.2 dL_dice_33
set_option maxHeartbeats 8000000 in
set_option maxRecDepth 100000 in
theorem c_L_table (l : Launch) (D : va_G) (cI cZ : ClassId) (qt : Nat) (T : Nat → Int32) (a : Nat) (b : Nat) (h1 : 1 ≤ a) (h2 : a ≤ 9) (h3 : 1 ≤ b) (h4 : b ≤ 9) : Met l yL_table wsL_table ({ frames := 0, cells := 0, slots := 0, locals := 0 }) (va_Pc [.ref qt, .int (nI a), .int (nI b)] (rW D ([(qt, .inl (cI, 64, .inl T))] : va_W) (tIZ cI cZ))) (RO (fun r => r = T (tri a b))) 0 0 nA := by
  refine ro_of (own := RL) (cc := cL_table) (maxL := 4) (ret := (some .int)) (by decide) rfl rfl (Nat.le_of_ble_eq_true rfl) ?_
  intro p9 e9 s m9 a9 below meth c9 ls hx hb hr hml hlocks hown hts hP hK hl
  have hS : va_S nA s.heap s.heap [] := va_S.rf
  have hl : lv_has ls 4 [(0, .ref qt), (1, .int (nI a)), (2, .int (nI b))] := hl
  refine lv_iload_n hx hb dL_table_0 rfl (lv_at hl 1 rfl) ?_
  refine lv_iload_n hx hb dL_table_1 rfl (lv_at hl 2 rfl) ?_
  refine lv_icmp_ge (x := (nI a)) (y := (nI b)) (tgt := 9) hx hb dL_table_2 (by decide) (fun c_2 => ?_) (fun c_2 => ?_)
  · have c_2 := nl_ge (k := a) (n := b) c_2 (by omega) (by omega)
    refine lv_iload_n hx hb dL_table_9 rfl (lv_at hl 2 rfl) ?_
    refine lv_istore_n (lv' := [(3, .int (nI b)), (0, .ref qt), (1, .int (nI a)), (2, .int (nI b))]) hx hb dL_table_10 rfl hl (by decide) rfl (fun ls hl => ?_)
    refine lv_aload_n hx hb dL_table_11 rfl (lv_at hl 1 rfl) ?_
    refine lv_iload_n hx hb dL_table_12 rfl (lv_at hl 0 rfl) ?_
    refine lv_iconst (v := 1) hx hb dL_table_13 (by decide) ?_
    refine lv_isub hx hb (x := (nI b)) (y := 1) dL_table_14 ?_
    refine W.eq (g2 := F0 m9 15 ls (.int (nI (b - 1)) :: [.ref qt])) (congrArg (fun z => F0 m9 15 ls (Value.int z :: [.ref qt])) (pk_sub (a := b) (b := 1) (by omega))) ?_
    refine lv_bipush (v := 20) hx hb dL_table_15 (by decide) ?_
    refine lv_iload_n hx hb dL_table_17 rfl (lv_at hl 0 rfl) ?_
    refine lv_isub hx hb (x := 20) (y := (nI b)) dL_table_18 ?_
    refine W.eq (g2 := F0 m9 19 ls (.int (nI (20 - b)) :: [.int (nI (b - 1)), .ref qt])) (congrArg (fun z => F0 m9 19 ls (Value.int z :: [.int (nI (b - 1)), .ref qt])) (pk_sub (a := 20) (b := b) (by omega))) ?_
    refine lv_imul hx hb (x := (nI (b - 1))) (y := (nI (20 - b))) dL_table_19 ?_
    refine W.eq (g2 := F0 m9 20 ls (.int (nI ((b - 1) * (20 - b))) :: [.ref qt])) (congrArg (fun z => F0 m9 20 ls (Value.int z :: [.ref qt])) (pk_mul (b - 1) (20 - b))) ?_
    refine lv_iconst (v := 2) hx hb dL_table_20 (by decide) ?_
    refine lv_idiv hx hb (x := (nI ((b - 1) * (20 - b)))) (y := 2) dL_table_21 (by decide) ?_
    refine W.eq (g2 := F0 m9 22 ls (.int (nI ((b - 1) * (20 - b) / 2)) :: [.ref qt])) (congrArg (fun z => F0 m9 22 ls (Value.int z :: [.ref qt])) (pk_div (a := (b - 1) * (20 - b)) (d := 2) (tri_b b (by omega)) (by decide) (by decide))) ?_
    refine lv_iload_n hx hb dL_table_22 rfl (lv_at hl 2 rfl) ?_
    refine lv_iadd hx hb (x := (nI ((b - 1) * (20 - b) / 2))) (y := (nI a)) dL_table_23 ?_
    refine W.eq (g2 := F0 m9 24 ls (.int (nI (((b - 1) * (20 - b) / 2) + a)) :: [.ref qt])) (congrArg (fun z => F0 m9 24 ls (Value.int z :: [.ref qt])) (nI_add ((b - 1) * (20 - b) / 2) a)) ?_
    refine lv_iload_n hx hb dL_table_24 rfl (lv_at hl 3 rfl) ?_
    refine lv_iadd hx hb (x := (nI (((b - 1) * (20 - b) / 2) + a))) (y := (nI b)) dL_table_25 ?_
    refine W.eq (g2 := F0 m9 26 ls (.int (nI ((((b - 1) * (20 - b) / 2) + a) + b)) :: [.ref qt])) (congrArg (fun z => F0 m9 26 ls (Value.int z :: [.ref qt])) (nI_add (((b - 1) * (20 - b) / 2) + a) b)) ?_
    refine lv_iconst (v := 2) hx hb dL_table_26 (by decide) ?_
    refine lv_iload_n hx hb dL_table_27 rfl (lv_at hl 0 rfl) ?_
    refine lv_imul hx hb (x := 2) (y := (nI b)) dL_table_28 ?_
    refine W.eq (g2 := F0 m9 29 ls (.int (nI (2 * b)) :: [.int (nI ((((b - 1) * (20 - b) / 2) + a) + b)), .ref qt])) (congrArg (fun z => F0 m9 29 ls (Value.int z :: [.int (nI ((((b - 1) * (20 - b) / 2) + a) + b)), .ref qt])) (pk_mul 2 b)) ?_
    refine lv_isub hx hb (x := (nI ((((b - 1) * (20 - b) / 2) + a) + b))) (y := (nI (2 * b))) dL_table_29 ?_
    refine W.eq (g2 := F0 m9 30 ls (.int (nI (((((b - 1) * (20 - b) / 2) + a) + b) - (2 * b))) :: [.ref qt])) (congrArg (fun z => F0 m9 30 ls (Value.int z :: [.ref qt])) (pk_sub (a := ((((b - 1) * (20 - b) / 2) + a) + b)) (b := (2 * b)) (by omega))) ?_
    refine W.eq (g2 := F0 m9 30 ls (.int (nI (tri a b)) :: [.ref qt])) (congrArg (fun z => F0 m9 30 ls (Value.int z :: [.ref qt])) (congrArg nI (tri_g c_2))) ?_
    refine xiald (g := (tri a b)) hx hb hK hP 0 0 rfl rfl (tri_lt h1 h2 h3 h4) (by decide) dL_table_30 ?_
    exact W.iret hx hb hr (fun t ht9 hW => ⟨⟨_, (), rfl, (by show (T (tri a b)) = T (tri a b); exact rfl), trivial⟩, hS.F ht9⟩) hS.2.2 dL_table_31
  · have c_2 := nl_lt (k := a) (n := b) c_2 (by omega) (by omega)
    refine lv_iload_n hx hb dL_table_5 rfl (lv_at hl 1 rfl) ?_
    refine lv_goto (tgt := 10) hx hb dL_table_6 (by decide) ?_
    refine lv_istore_n (lv' := [(3, .int (nI a)), (0, .ref qt), (1, .int (nI a)), (2, .int (nI b))]) hx hb dL_table_10 rfl hl (by decide) rfl (fun ls hl => ?_)
    refine lv_aload_n hx hb dL_table_11 rfl (lv_at hl 1 rfl) ?_
    refine lv_iload_n hx hb dL_table_12 rfl (lv_at hl 0 rfl) ?_
    refine lv_iconst (v := 1) hx hb dL_table_13 (by decide) ?_
    refine lv_isub hx hb (x := (nI a)) (y := 1) dL_table_14 ?_
    refine W.eq (g2 := F0 m9 15 ls (.int (nI (a - 1)) :: [.ref qt])) (congrArg (fun z => F0 m9 15 ls (Value.int z :: [.ref qt])) (pk_sub (a := a) (b := 1) (by omega))) ?_
    refine lv_bipush (v := 20) hx hb dL_table_15 (by decide) ?_
    refine lv_iload_n hx hb dL_table_17 rfl (lv_at hl 0 rfl) ?_
    refine lv_isub hx hb (x := 20) (y := (nI a)) dL_table_18 ?_
    refine W.eq (g2 := F0 m9 19 ls (.int (nI (20 - a)) :: [.int (nI (a - 1)), .ref qt])) (congrArg (fun z => F0 m9 19 ls (Value.int z :: [.int (nI (a - 1)), .ref qt])) (pk_sub (a := 20) (b := a) (by omega))) ?_
    refine lv_imul hx hb (x := (nI (a - 1))) (y := (nI (20 - a))) dL_table_19 ?_
    refine W.eq (g2 := F0 m9 20 ls (.int (nI ((a - 1) * (20 - a))) :: [.ref qt])) (congrArg (fun z => F0 m9 20 ls (Value.int z :: [.ref qt])) (pk_mul (a - 1) (20 - a))) ?_
    refine lv_iconst (v := 2) hx hb dL_table_20 (by decide) ?_
    refine lv_idiv hx hb (x := (nI ((a - 1) * (20 - a)))) (y := 2) dL_table_21 (by decide) ?_
    refine W.eq (g2 := F0 m9 22 ls (.int (nI ((a - 1) * (20 - a) / 2)) :: [.ref qt])) (congrArg (fun z => F0 m9 22 ls (Value.int z :: [.ref qt])) (pk_div (a := (a - 1) * (20 - a)) (d := 2) (tri_b a (by omega)) (by decide) (by decide))) ?_
    refine lv_iload_n hx hb dL_table_22 rfl (lv_at hl 2 rfl) ?_
    refine lv_iadd hx hb (x := (nI ((a - 1) * (20 - a) / 2))) (y := (nI a)) dL_table_23 ?_
    refine W.eq (g2 := F0 m9 24 ls (.int (nI (((a - 1) * (20 - a) / 2) + a)) :: [.ref qt])) (congrArg (fun z => F0 m9 24 ls (Value.int z :: [.ref qt])) (nI_add ((a - 1) * (20 - a) / 2) a)) ?_
    refine lv_iload_n hx hb dL_table_24 rfl (lv_at hl 3 rfl) ?_
    refine lv_iadd hx hb (x := (nI (((a - 1) * (20 - a) / 2) + a))) (y := (nI b)) dL_table_25 ?_
    refine W.eq (g2 := F0 m9 26 ls (.int (nI ((((a - 1) * (20 - a) / 2) + a) + b)) :: [.ref qt])) (congrArg (fun z => F0 m9 26 ls (Value.int z :: [.ref qt])) (nI_add (((a - 1) * (20 - a) / 2) + a) b)) ?_
    refine lv_iconst (v := 2) hx hb dL_table_26 (by decide) ?_
    refine lv_iload_n hx hb dL_table_27 rfl (lv_at hl 0 rfl) ?_
    refine lv_imul hx hb (x := 2) (y := (nI a)) dL_table_28 ?_
    refine W.eq (g2 := F0 m9 29 ls (.int (nI (2 * a)) :: [.int (nI ((((a - 1) * (20 - a) / 2) + a) + b)), .ref qt])) (congrArg (fun z => F0 m9 29 ls (Value.int z :: [.int (nI ((((a - 1) * (20 - a) / 2) + a) + b)), .ref qt])) (pk_mul 2 a)) ?_
    refine lv_isub hx hb (x := (nI ((((a - 1) * (20 - a) / 2) + a) + b))) (y := (nI (2 * a))) dL_table_29 ?_
    refine W.eq (g2 := F0 m9 30 ls (.int (nI (((((a - 1) * (20 - a) / 2) + a) + b) - (2 * a))) :: [.ref qt])) (congrArg (fun z => F0 m9 30 ls (Value.int z :: [.ref qt])) (pk_sub (a := ((((a - 1) * (20 - a) / 2) + a) + b)) (b := (2 * a)) (by omega))) ?_
    refine W.eq (g2 := F0 m9 30 ls (.int (nI (tri a b)) :: [.ref qt])) (congrArg (fun z => F0 m9 30 ls (Value.int z :: [.ref qt])) (congrArg nI (tri_l c_2))) ?_
    refine xiald (g := (tri a b)) hx hb hK hP 0 0 rfl rfl (tri_lt h1 h2 h3 h4) (by decide) dL_table_30 ?_
    exact W.iret hx hb hr (fun t ht9 hW => ⟨⟨_, (), rfl, (by show (T (tri a b)) = T (tri a b); exact rfl), trivial⟩, hS.F ht9⟩) hS.2.2 dL_table_31
set_option maxHeartbeats 8000000 in
set_option maxRecDepth 100000 in
theorem c_L_sets (l : Launch) (D : va_G) (cI cZ : ClassId) (qt : Nat) (T : Nat → Int32) (sz : Nat) (a : Nat) (b : Nat) (d : Int32) (h1 : 1 ≤ a) (h2 : a ≤ 9) (h3 : 1 ≤ b) (h4 : b ≤ 9) : Met l yL_sets wsL_sets ({ frames := 0, cells := 0, slots := 0, locals := 0 }) (va_Pc [.ref qt, .int (nI a), .int (nI b), .int d] (wS D ([(qt, .inl (cI, 64, .inl T))] : va_W) (tIZ cI cZ) sz)) (va_Qv (fun (u : Nat → Int32) => u = upd T (tri a b) d) (wB D (va_A ([(qt, .inl (cI, 64, .inl T))] : va_W) sz) (fun (u : Nat → Int32) => ([(qt, .inl (cI, 64, .inl u))] : va_W))) (va_A ([(qt, .inl (cI, 64, .inl T))] : va_W) sz)) 0 0 (va_A ([(qt, .inl (cI, 64, .inl T))] : va_W) sz) := by
  refine in_of (Qc := fun A => (va_Qv (fun (u : Nat → Int32) => u = upd T (tri a b) d) (wB D A (fun (u : Nat → Int32) => ([(qt, .inl (cI, 64, .inl u))] : va_W))) A)) (own := RL) (cc := cL_sets) (maxL := 5) (ret := none) (by decide) rfl rfl (Nat.le_of_ble_eq_true rfl) ?_
  intro p9 e9 s m9 a9 below meth c9 ls A hx hb hr hml hlocks hown hts hP hK hD hA hl hnm
  have hS : va_S A s.heap s.heap [] := va_S.rf
  have hl : lv_has ls 5 [(0, .ref qt), (1, .int (nI a)), (2, .int (nI b)), (3, .int d)] := hl
  refine lv_iload_n hx hb dL_sets_0 rfl (lv_at hl 1 rfl) ?_
  refine lv_iload_n hx hb dL_sets_1 rfl (lv_at hl 2 rfl) ?_
  refine lv_icmp_ge (x := (nI a)) (y := (nI b)) (tgt := 9) hx hb dL_sets_2 (by decide) (fun c_2 => ?_) (fun c_2 => ?_)
  · have c_2 := nl_ge (k := a) (n := b) c_2 (by omega) (by omega)
    refine lv_iload_n hx hb dL_sets_9 rfl (lv_at hl 2 rfl) ?_
    refine lv_istore (lv' := [(4, .int (nI b)), (0, .ref qt), (1, .int (nI a)), (2, .int (nI b)), (3, .int d)]) hx hb dL_sets_10 hl (by decide) rfl (fun ls hl => ?_)
    refine lv_aload_n hx hb dL_sets_12 rfl (lv_at hl 1 rfl) ?_
    refine lv_iload hx hb dL_sets_13 (lv_at hl 0 rfl) ?_
    refine lv_iconst (v := 1) hx hb dL_sets_15 (by decide) ?_
    refine lv_isub hx hb (x := (nI b)) (y := 1) dL_sets_16 ?_
    refine W.eq (g2 := F0 m9 17 ls (.int (nI (b - 1)) :: [.ref qt])) (congrArg (fun z => F0 m9 17 ls (Value.int z :: [.ref qt])) (pk_sub (a := b) (b := 1) (by omega))) ?_
    refine lv_bipush (v := 20) hx hb dL_sets_17 (by decide) ?_
    refine lv_iload hx hb dL_sets_19 (lv_at hl 0 rfl) ?_
    refine lv_isub hx hb (x := 20) (y := (nI b)) dL_sets_21 ?_
    refine W.eq (g2 := F0 m9 22 ls (.int (nI (20 - b)) :: [.int (nI (b - 1)), .ref qt])) (congrArg (fun z => F0 m9 22 ls (Value.int z :: [.int (nI (b - 1)), .ref qt])) (pk_sub (a := 20) (b := b) (by omega))) ?_
    refine lv_imul hx hb (x := (nI (b - 1))) (y := (nI (20 - b))) dL_sets_22 ?_
    refine W.eq (g2 := F0 m9 23 ls (.int (nI ((b - 1) * (20 - b))) :: [.ref qt])) (congrArg (fun z => F0 m9 23 ls (Value.int z :: [.ref qt])) (pk_mul (b - 1) (20 - b))) ?_
    refine lv_iconst (v := 2) hx hb dL_sets_23 (by decide) ?_
    refine lv_idiv hx hb (x := (nI ((b - 1) * (20 - b)))) (y := 2) dL_sets_24 (by decide) ?_
    refine W.eq (g2 := F0 m9 25 ls (.int (nI ((b - 1) * (20 - b) / 2)) :: [.ref qt])) (congrArg (fun z => F0 m9 25 ls (Value.int z :: [.ref qt])) (pk_div (a := (b - 1) * (20 - b)) (d := 2) (tri_b b (by omega)) (by decide) (by decide))) ?_
    refine lv_iload_n hx hb dL_sets_25 rfl (lv_at hl 2 rfl) ?_
    refine lv_iadd hx hb (x := (nI ((b - 1) * (20 - b) / 2))) (y := (nI a)) dL_sets_26 ?_
    refine W.eq (g2 := F0 m9 27 ls (.int (nI (((b - 1) * (20 - b) / 2) + a)) :: [.ref qt])) (congrArg (fun z => F0 m9 27 ls (Value.int z :: [.ref qt])) (nI_add ((b - 1) * (20 - b) / 2) a)) ?_
    refine lv_iload_n hx hb dL_sets_27 rfl (lv_at hl 3 rfl) ?_
    refine lv_iadd hx hb (x := (nI (((b - 1) * (20 - b) / 2) + a))) (y := (nI b)) dL_sets_28 ?_
    refine W.eq (g2 := F0 m9 29 ls (.int (nI ((((b - 1) * (20 - b) / 2) + a) + b)) :: [.ref qt])) (congrArg (fun z => F0 m9 29 ls (Value.int z :: [.ref qt])) (nI_add (((b - 1) * (20 - b) / 2) + a) b)) ?_
    refine lv_iconst (v := 2) hx hb dL_sets_29 (by decide) ?_
    refine lv_iload hx hb dL_sets_30 (lv_at hl 0 rfl) ?_
    refine lv_imul hx hb (x := 2) (y := (nI b)) dL_sets_32 ?_
    refine W.eq (g2 := F0 m9 33 ls (.int (nI (2 * b)) :: [.int (nI ((((b - 1) * (20 - b) / 2) + a) + b)), .ref qt])) (congrArg (fun z => F0 m9 33 ls (Value.int z :: [.int (nI ((((b - 1) * (20 - b) / 2) + a) + b)), .ref qt])) (pk_mul 2 b)) ?_
    refine lv_isub hx hb (x := (nI ((((b - 1) * (20 - b) / 2) + a) + b))) (y := (nI (2 * b))) dL_sets_33 ?_
    refine W.eq (g2 := F0 m9 34 ls (.int (nI (((((b - 1) * (20 - b) / 2) + a) + b) - (2 * b))) :: [.ref qt])) (congrArg (fun z => F0 m9 34 ls (Value.int z :: [.ref qt])) (pk_sub (a := ((((b - 1) * (20 - b) / 2) + a) + b)) (b := (2 * b)) (by omega))) ?_
    refine W.eq (g2 := F0 m9 34 ls (.int (nI (tri a b)) :: [.ref qt])) (congrArg (fun z => F0 m9 34 ls (Value.int z :: [.ref qt])) (congrArg nI (tri_g c_2))) ?_
    refine lv_iload_n hx hb dL_sets_34 rfl (lv_at hl 4 rfl) ?_
    refine xiast (g := (tri a b)) (x := d) hx hb hK hP hD hS 0 0 rfl rfl (tri_lt h1 h2 h3 h4) (by decide) dL_sets_35 (fun H locs hP hD hS => ?_)
    have hP : va_P D vwCl [(qt, .inl (cI, 64, .inl (upd T (tri a b) d)))] H := hP
    have hD : va_D A [(qt, .inl (cI, 64, .inl (upd T (tri a b) d)))] := hD
    refine W.widen (k := 0) (n := 0) (by omega) (by omega) ?_
    exact W.vret hx hb hr (fun t ht9 hW => ⟨⟨upd T (tri a b) d, rfl, (by show (upd T (tri a b) d) = upd T (tri a b) d; exact rfl), by rw [ht9]; exact hP, hD⟩, hS.F ht9⟩) hS.2.2 dL_sets_36
  · have c_2 := nl_lt (k := a) (n := b) c_2 (by omega) (by omega)
    refine lv_iload_n hx hb dL_sets_5 rfl (lv_at hl 1 rfl) ?_
    refine lv_goto (tgt := 10) hx hb dL_sets_6 (by decide) ?_
    refine lv_istore (lv' := [(4, .int (nI a)), (0, .ref qt), (1, .int (nI a)), (2, .int (nI b)), (3, .int d)]) hx hb dL_sets_10 hl (by decide) rfl (fun ls hl => ?_)
    refine lv_aload_n hx hb dL_sets_12 rfl (lv_at hl 1 rfl) ?_
    refine lv_iload hx hb dL_sets_13 (lv_at hl 0 rfl) ?_
    refine lv_iconst (v := 1) hx hb dL_sets_15 (by decide) ?_
    refine lv_isub hx hb (x := (nI a)) (y := 1) dL_sets_16 ?_
    refine W.eq (g2 := F0 m9 17 ls (.int (nI (a - 1)) :: [.ref qt])) (congrArg (fun z => F0 m9 17 ls (Value.int z :: [.ref qt])) (pk_sub (a := a) (b := 1) (by omega))) ?_
    refine lv_bipush (v := 20) hx hb dL_sets_17 (by decide) ?_
    refine lv_iload hx hb dL_sets_19 (lv_at hl 0 rfl) ?_
    refine lv_isub hx hb (x := 20) (y := (nI a)) dL_sets_21 ?_
    refine W.eq (g2 := F0 m9 22 ls (.int (nI (20 - a)) :: [.int (nI (a - 1)), .ref qt])) (congrArg (fun z => F0 m9 22 ls (Value.int z :: [.int (nI (a - 1)), .ref qt])) (pk_sub (a := 20) (b := a) (by omega))) ?_
    refine lv_imul hx hb (x := (nI (a - 1))) (y := (nI (20 - a))) dL_sets_22 ?_
    refine W.eq (g2 := F0 m9 23 ls (.int (nI ((a - 1) * (20 - a))) :: [.ref qt])) (congrArg (fun z => F0 m9 23 ls (Value.int z :: [.ref qt])) (pk_mul (a - 1) (20 - a))) ?_
    refine lv_iconst (v := 2) hx hb dL_sets_23 (by decide) ?_
    refine lv_idiv hx hb (x := (nI ((a - 1) * (20 - a)))) (y := 2) dL_sets_24 (by decide) ?_
    refine W.eq (g2 := F0 m9 25 ls (.int (nI ((a - 1) * (20 - a) / 2)) :: [.ref qt])) (congrArg (fun z => F0 m9 25 ls (Value.int z :: [.ref qt])) (pk_div (a := (a - 1) * (20 - a)) (d := 2) (tri_b a (by omega)) (by decide) (by decide))) ?_
    refine lv_iload_n hx hb dL_sets_25 rfl (lv_at hl 2 rfl) ?_
    refine lv_iadd hx hb (x := (nI ((a - 1) * (20 - a) / 2))) (y := (nI a)) dL_sets_26 ?_
    refine W.eq (g2 := F0 m9 27 ls (.int (nI (((a - 1) * (20 - a) / 2) + a)) :: [.ref qt])) (congrArg (fun z => F0 m9 27 ls (Value.int z :: [.ref qt])) (nI_add ((a - 1) * (20 - a) / 2) a)) ?_
    refine lv_iload_n hx hb dL_sets_27 rfl (lv_at hl 3 rfl) ?_
    refine lv_iadd hx hb (x := (nI (((a - 1) * (20 - a) / 2) + a))) (y := (nI b)) dL_sets_28 ?_
    refine W.eq (g2 := F0 m9 29 ls (.int (nI ((((a - 1) * (20 - a) / 2) + a) + b)) :: [.ref qt])) (congrArg (fun z => F0 m9 29 ls (Value.int z :: [.ref qt])) (nI_add (((a - 1) * (20 - a) / 2) + a) b)) ?_
    refine lv_iconst (v := 2) hx hb dL_sets_29 (by decide) ?_
    refine lv_iload hx hb dL_sets_30 (lv_at hl 0 rfl) ?_
    refine lv_imul hx hb (x := 2) (y := (nI a)) dL_sets_32 ?_
    refine W.eq (g2 := F0 m9 33 ls (.int (nI (2 * a)) :: [.int (nI ((((a - 1) * (20 - a) / 2) + a) + b)), .ref qt])) (congrArg (fun z => F0 m9 33 ls (Value.int z :: [.int (nI ((((a - 1) * (20 - a) / 2) + a) + b)), .ref qt])) (pk_mul 2 a)) ?_
    refine lv_isub hx hb (x := (nI ((((a - 1) * (20 - a) / 2) + a) + b))) (y := (nI (2 * a))) dL_sets_33 ?_
    refine W.eq (g2 := F0 m9 34 ls (.int (nI (((((a - 1) * (20 - a) / 2) + a) + b) - (2 * a))) :: [.ref qt])) (congrArg (fun z => F0 m9 34 ls (Value.int z :: [.ref qt])) (pk_sub (a := ((((a - 1) * (20 - a) / 2) + a) + b)) (b := (2 * a)) (by omega))) ?_
    refine W.eq (g2 := F0 m9 34 ls (.int (nI (tri a b)) :: [.ref qt])) (congrArg (fun z => F0 m9 34 ls (Value.int z :: [.ref qt])) (congrArg nI (tri_l c_2))) ?_
    refine lv_iload_n hx hb dL_sets_34 rfl (lv_at hl 4 rfl) ?_
    refine xiast (g := (tri a b)) (x := d) hx hb hK hP hD hS 0 0 rfl rfl (tri_lt h1 h2 h3 h4) (by decide) dL_sets_35 (fun H locs hP hD hS => ?_)
    have hP : va_P D vwCl [(qt, .inl (cI, 64, .inl (upd T (tri a b) d)))] H := hP
    have hD : va_D A [(qt, .inl (cI, 64, .inl (upd T (tri a b) d)))] := hD
    refine W.widen (k := 0) (n := 0) (by omega) (by omega) ?_
    exact W.vret hx hb hr (fun t ht9 hW => ⟨⟨upd T (tri a b) d, rfl, (by show (upd T (tri a b) d) = upd T (tri a b) d; exact rfl), by rw [ht9]; exact hP, hD⟩, hS.F ht9⟩) hS.2.2 dL_sets_36
set_option maxHeartbeats 8000000 in
set_option maxRecDepth 100000 in
theorem c_L_isWithin_10 (l : Launch) (D : va_G) (cI cZ : ClassId) (qg : Nat) (G : Nat → Int32) (qo : Nat) (M : Nat → Int32) (k : Nat) {F : Nat → Nat → Int32} {n : Nat} {T : Nat → Int32} (hw : WF F n) (hv : IV F n T M G) (hk : k < n) : Met l yL_isWithin wsL_isWithin ({ frames := 0, cells := 0, slots := 0, locals := 0 }) (va_Pc [.ref qg, .ref qo, .int (nI k), .int 10] (rW D ([(qg, .inl (cI, 48, .inl G)), (qo, .inl (cI, 30, .inl M))] : va_W) (tIZ cI cZ))) (RO (fun r => r = bi (sWithin F 2 k))) 0 0 nA := by
  refine ro_of (own := RL) (cc := cL_isWithin) (maxL := 4) (ret := (some .boolean)) (by decide) rfl rfl (Nat.le_of_ble_eq_true rfl) ?_
  intro p9 e9 s m9 a9 below meth c9 ls hx hb hr hml hlocks hown hts hP hK hl
  have hS : va_S nA s.heap s.heap [] := va_S.rf
  have hl : lv_has ls 4 [(0, .ref qg), (1, .ref qo), (2, .int (nI k)), (3, .int 10)] := hl
  have hn10 := hv.n
  obtain ⟨c, hc1, hc2, ec⟩ := hw.cls hk
  refine lv_aload_n hx hb dL_isWithin_0 rfl (lv_at hl 0 rfl) ?_
  refine lv_iconst (v := 3) hx hb dL_isWithin_1 (by decide) ?_
  refine lv_iload_n hx hb dL_isWithin_2 rfl (lv_at hl 2 rfl) ?_
  refine lv_imul hx hb (x := 3) (y := (nI k)) dL_isWithin_3 ?_
  refine W.eq (g2 := F0 m9 4 ls (.int (nI (3 * k)) :: [.ref qg])) (congrArg (fun z => F0 m9 4 ls (Value.int z :: [.ref qg])) (pk_mul 3 k)) ?_
  refine lv_iconst (v := 2) hx hb dL_isWithin_4 (by decide) ?_
  refine lv_iadd hx hb (x := (nI (3 * k))) (y := 2) dL_isWithin_5 ?_
  refine W.eq (g2 := F0 m9 6 ls (.int (nI ((3 * k) + 2)) :: [.ref qg])) (congrArg (fun z => F0 m9 6 ls (Value.int z :: [.ref qg])) (nI_add (3 * k) 2)) ?_
  refine xiald (g := ((3 * k) + 2)) hx hb hK hP 0 0 rfl rfl (by omega) (by decide) dL_isWithin_6 ?_
  refine W.eq (g2 := F0 m9 7 ls (.int (F 6 k) :: [])) (congrArg (fun z => F0 m9 7 ls (Value.int z :: [])) (hv.g2 hk)) ?_
  refine lv_aload_n hx hb dL_isWithin_7 rfl (lv_at hl 1 rfl) ?_
  refine lv_iload_n hx hb dL_isWithin_8 rfl (lv_at hl 3 rfl) ?_
  refine lv_aload_n hx hb dL_isWithin_9 rfl (lv_at hl 0 rfl) ?_
  refine lv_iconst (v := 3) hx hb dL_isWithin_10 (by decide) ?_
  refine lv_iload_n hx hb dL_isWithin_11 rfl (lv_at hl 2 rfl) ?_
  refine lv_imul hx hb (x := 3) (y := (nI k)) dL_isWithin_12 ?_
  refine W.eq (g2 := F0 m9 13 ls (.int (nI (3 * k)) :: [.ref qg, .int 10, .ref qo, .int (F 6 k)])) (congrArg (fun z => F0 m9 13 ls (Value.int z :: [.ref qg, .int 10, .ref qo, .int (F 6 k)])) (pk_mul 3 k)) ?_
  refine xiald (g := (3 * k)) hx hb hK hP 0 0 rfl rfl (by omega) (by decide) dL_isWithin_13 ?_
  refine W.eq (g2 := F0 m9 14 ls (.int (nI c) :: [.int 10, .ref qo, .int (F 6 k)])) (congrArg (fun z => F0 m9 14 ls (Value.int z :: [.int 10, .ref qo, .int (F 6 k)])) ((hv.g0 hk).trans ec)) ?_
  refine lv_iadd hx hb (x := 10) (y := (nI c)) dL_isWithin_14 ?_
  refine W.eq (g2 := F0 m9 15 ls (.int (nI (10 + c)) :: [.ref qo, .int (F 6 k)])) (congrArg (fun z => F0 m9 15 ls (Value.int z :: [.ref qo, .int (F 6 k)])) (nI_add 10 c)) ?_
  refine xiald (g := (10 + c)) hx hb hK hP 1 0 rfl rfl (by omega) (by decide) dL_isWithin_15 ?_
  refine W.eq (g2 := F0 m9 16 ls (.int (F 2 c) :: [.int (F 6 k)])) (congrArg (fun z => F0 m9 16 ls (Value.int z :: [.int (F 6 k)])) (hv.m1 hc1 hc2)) ?_
  refine lv_icmp_gt (x := (F 6 k)) (y := (F 2 c)) (tgt := 54) hx hb dL_isWithin_16 (by decide) (fun c_16 => ?_) (fun c_16 => ?_)
  · skip
    refine lv_iconst (v := 0) hx hb dL_isWithin_54 (by decide) ?_
    exact W.zret hx hb hr zn0 (fun t ht9 hW => ⟨⟨_, (), rfl, (by show 0 = bi (sWithin F 2 k); exact (congrArg bi (wi_f1 ec hc2 c_16)).symm), trivial⟩, hS.F ht9⟩) hS.2.2 dL_isWithin_55
  · skip
    refine lv_aload_n hx hb dL_isWithin_19 rfl (lv_at hl 0 rfl) ?_
    refine lv_iconst (v := 3) hx hb dL_isWithin_20 (by decide) ?_
    refine lv_iload_n hx hb dL_isWithin_21 rfl (lv_at hl 2 rfl) ?_
    refine lv_imul hx hb (x := 3) (y := (nI k)) dL_isWithin_22 ?_
    refine W.eq (g2 := F0 m9 23 ls (.int (nI (3 * k)) :: [.ref qg])) (congrArg (fun z => F0 m9 23 ls (Value.int z :: [.ref qg])) (pk_mul 3 k)) ?_
    refine lv_iconst (v := 1) hx hb dL_isWithin_23 (by decide) ?_
    refine lv_iadd hx hb (x := (nI (3 * k))) (y := 1) dL_isWithin_24 ?_
    refine W.eq (g2 := F0 m9 25 ls (.int (nI ((3 * k) + 1)) :: [.ref qg])) (congrArg (fun z => F0 m9 25 ls (Value.int z :: [.ref qg])) (nI_add (3 * k) 1)) ?_
    refine xiald (g := ((3 * k) + 1)) hx hb hK hP 0 0 rfl rfl (by omega) (by decide) dL_isWithin_25 ?_
    refine W.eq (g2 := F0 m9 26 ls (.int (gs F k) :: [])) (congrArg (fun z => F0 m9 26 ls (Value.int z :: [])) (hv.g1 hk)) ?_
    refine lv_if_eq (x := (gs F k)) (tgt := 50) hx hb dL_isWithin_26 (by decide) (fun c_26 => ?_) (fun c_26 => ?_)
    · skip
      refine lv_iconst (v := 1) hx hb dL_isWithin_50 (by decide) ?_
      refine lv_goto (tgt := 55) hx hb dL_isWithin_51 (by decide) ?_
      exact W.zret hx hb hr zn1 (fun t ht9 hW => ⟨⟨_, (), rfl, (by show 1 = bi (sWithin F 2 k); exact (congrArg bi (wi_t1 ec hc2 c_16 (gs_0 hw hk c_26))).symm), trivial⟩, hS.F ht9⟩) hS.2.2 dL_isWithin_55
    · skip
      obtain ⟨d, hd1, hd2, e5, eg⟩ := gs_n hw hk c_26
      refine lv_aload_n hx hb dL_isWithin_29 rfl (lv_at hl 0 rfl) ?_
      refine lv_iconst (v := 3) hx hb dL_isWithin_30 (by decide) ?_
      refine lv_iload_n hx hb dL_isWithin_31 rfl (lv_at hl 2 rfl) ?_
      refine lv_imul hx hb (x := 3) (y := (nI k)) dL_isWithin_32 ?_
      refine W.eq (g2 := F0 m9 33 ls (.int (nI (3 * k)) :: [.ref qg])) (congrArg (fun z => F0 m9 33 ls (Value.int z :: [.ref qg])) (pk_mul 3 k)) ?_
      refine lv_iconst (v := 2) hx hb dL_isWithin_33 (by decide) ?_
      refine lv_iadd hx hb (x := (nI (3 * k))) (y := 2) dL_isWithin_34 ?_
      refine W.eq (g2 := F0 m9 35 ls (.int (nI ((3 * k) + 2)) :: [.ref qg])) (congrArg (fun z => F0 m9 35 ls (Value.int z :: [.ref qg])) (nI_add (3 * k) 2)) ?_
      refine xiald (g := ((3 * k) + 2)) hx hb hK hP 0 0 rfl rfl (by omega) (by decide) dL_isWithin_35 ?_
      refine W.eq (g2 := F0 m9 36 ls (.int (F 6 k) :: [])) (congrArg (fun z => F0 m9 36 ls (Value.int z :: [])) (hv.g2 hk)) ?_
      refine lv_aload_n hx hb dL_isWithin_36 rfl (lv_at hl 1 rfl) ?_
      refine lv_iload_n hx hb dL_isWithin_37 rfl (lv_at hl 3 rfl) ?_
      refine lv_aload_n hx hb dL_isWithin_38 rfl (lv_at hl 0 rfl) ?_
      refine lv_iconst (v := 3) hx hb dL_isWithin_39 (by decide) ?_
      refine lv_iload_n hx hb dL_isWithin_40 rfl (lv_at hl 2 rfl) ?_
      refine lv_imul hx hb (x := 3) (y := (nI k)) dL_isWithin_41 ?_
      refine W.eq (g2 := F0 m9 42 ls (.int (nI (3 * k)) :: [.ref qg, .int 10, .ref qo, .int (F 6 k)])) (congrArg (fun z => F0 m9 42 ls (Value.int z :: [.ref qg, .int 10, .ref qo, .int (F 6 k)])) (pk_mul 3 k)) ?_
      refine lv_iconst (v := 1) hx hb dL_isWithin_42 (by decide) ?_
      refine lv_iadd hx hb (x := (nI (3 * k))) (y := 1) dL_isWithin_43 ?_
      refine W.eq (g2 := F0 m9 44 ls (.int (nI ((3 * k) + 1)) :: [.ref qg, .int 10, .ref qo, .int (F 6 k)])) (congrArg (fun z => F0 m9 44 ls (Value.int z :: [.ref qg, .int 10, .ref qo, .int (F 6 k)])) (nI_add (3 * k) 1)) ?_
      refine xiald (g := ((3 * k) + 1)) hx hb hK hP 0 0 rfl rfl (by omega) (by decide) dL_isWithin_44 ?_
      refine W.eq (g2 := F0 m9 45 ls (.int (nI d) :: [.int 10, .ref qo, .int (F 6 k)])) (congrArg (fun z => F0 m9 45 ls (Value.int z :: [.int 10, .ref qo, .int (F 6 k)])) ((hv.g1 hk).trans eg)) ?_
      refine lv_iadd hx hb (x := 10) (y := (nI d)) dL_isWithin_45 ?_
      refine W.eq (g2 := F0 m9 46 ls (.int (nI (10 + d)) :: [.ref qo, .int (F 6 k)])) (congrArg (fun z => F0 m9 46 ls (Value.int z :: [.ref qo, .int (F 6 k)])) (nI_add 10 d)) ?_
      refine xiald (g := (10 + d)) hx hb hK hP 1 0 rfl rfl (by omega) (by decide) dL_isWithin_46 ?_
      refine W.eq (g2 := F0 m9 47 ls (.int (F 2 d) :: [.int (F 6 k)])) (congrArg (fun z => F0 m9 47 ls (Value.int z :: [.int (F 6 k)])) (hv.m1 hd1 hd2)) ?_
      refine lv_icmp_gt (x := (F 6 k)) (y := (F 2 d)) (tgt := 54) hx hb dL_isWithin_47 (by decide) (fun c_47 => ?_) (fun c_47 => ?_)
      · skip
        refine lv_iconst (v := 0) hx hb dL_isWithin_54 (by decide) ?_
        exact W.zret hx hb hr zn0 (fun t ht9 hW => ⟨⟨_, (), rfl, (by show 0 = bi (sWithin F 2 k); exact (congrArg bi (wi_f2 ec hc2 c_16 e5 hd2 c_47)).symm), trivial⟩, hS.F ht9⟩) hS.2.2 dL_isWithin_55
      · skip
        refine lv_iconst (v := 1) hx hb dL_isWithin_50 (by decide) ?_
        refine lv_goto (tgt := 55) hx hb dL_isWithin_51 (by decide) ?_
        exact W.zret hx hb hr zn1 (fun t ht9 hW => ⟨⟨_, (), rfl, (by show 1 = bi (sWithin F 2 k); exact (congrArg bi (wi_t2 ec hc2 c_16 e5 hd2 c_47)).symm), trivial⟩, hS.F ht9⟩) hS.2.2 dL_isWithin_55
set_option maxHeartbeats 8000000 in
set_option maxRecDepth 100000 in
theorem c_L_isWithin_0 (l : Launch) (D : va_G) (cI cZ : ClassId) (qg : Nat) (G : Nat → Int32) (qo : Nat) (M : Nat → Int32) (k : Nat) {F : Nat → Nat → Int32} {n : Nat} {T : Nat → Int32} (hw : WF F n) (hv : IV F n T M G) (hk : k < n) : Met l yL_isWithin wsL_isWithin ({ frames := 0, cells := 0, slots := 0, locals := 0 }) (va_Pc [.ref qg, .ref qo, .int (nI k), .int 0] (rW D ([(qg, .inl (cI, 48, .inl G)), (qo, .inl (cI, 30, .inl M))] : va_W) (tIZ cI cZ))) (RO (fun r => r = bi (sWithin F 1 k))) 0 0 nA := by
  refine ro_of (own := RL) (cc := cL_isWithin) (maxL := 4) (ret := (some .boolean)) (by decide) rfl rfl (Nat.le_of_ble_eq_true rfl) ?_
  intro p9 e9 s m9 a9 below meth c9 ls hx hb hr hml hlocks hown hts hP hK hl
  have hS : va_S nA s.heap s.heap [] := va_S.rf
  have hl : lv_has ls 4 [(0, .ref qg), (1, .ref qo), (2, .int (nI k)), (3, .int 0)] := hl
  have hn10 := hv.n
  obtain ⟨c, hc1, hc2, ec⟩ := hw.cls hk
  refine lv_aload_n hx hb dL_isWithin_0 rfl (lv_at hl 0 rfl) ?_
  refine lv_iconst (v := 3) hx hb dL_isWithin_1 (by decide) ?_
  refine lv_iload_n hx hb dL_isWithin_2 rfl (lv_at hl 2 rfl) ?_
  refine lv_imul hx hb (x := 3) (y := (nI k)) dL_isWithin_3 ?_
  refine W.eq (g2 := F0 m9 4 ls (.int (nI (3 * k)) :: [.ref qg])) (congrArg (fun z => F0 m9 4 ls (Value.int z :: [.ref qg])) (pk_mul 3 k)) ?_
  refine lv_iconst (v := 2) hx hb dL_isWithin_4 (by decide) ?_
  refine lv_iadd hx hb (x := (nI (3 * k))) (y := 2) dL_isWithin_5 ?_
  refine W.eq (g2 := F0 m9 6 ls (.int (nI ((3 * k) + 2)) :: [.ref qg])) (congrArg (fun z => F0 m9 6 ls (Value.int z :: [.ref qg])) (nI_add (3 * k) 2)) ?_
  refine xiald (g := ((3 * k) + 2)) hx hb hK hP 0 0 rfl rfl (by omega) (by decide) dL_isWithin_6 ?_
  refine W.eq (g2 := F0 m9 7 ls (.int (F 6 k) :: [])) (congrArg (fun z => F0 m9 7 ls (Value.int z :: [])) (hv.g2 hk)) ?_
  refine lv_aload_n hx hb dL_isWithin_7 rfl (lv_at hl 1 rfl) ?_
  refine lv_iload_n hx hb dL_isWithin_8 rfl (lv_at hl 3 rfl) ?_
  refine lv_aload_n hx hb dL_isWithin_9 rfl (lv_at hl 0 rfl) ?_
  refine lv_iconst (v := 3) hx hb dL_isWithin_10 (by decide) ?_
  refine lv_iload_n hx hb dL_isWithin_11 rfl (lv_at hl 2 rfl) ?_
  refine lv_imul hx hb (x := 3) (y := (nI k)) dL_isWithin_12 ?_
  refine W.eq (g2 := F0 m9 13 ls (.int (nI (3 * k)) :: [.ref qg, .int 0, .ref qo, .int (F 6 k)])) (congrArg (fun z => F0 m9 13 ls (Value.int z :: [.ref qg, .int 0, .ref qo, .int (F 6 k)])) (pk_mul 3 k)) ?_
  refine xiald (g := (3 * k)) hx hb hK hP 0 0 rfl rfl (by omega) (by decide) dL_isWithin_13 ?_
  refine W.eq (g2 := F0 m9 14 ls (.int (nI c) :: [.int 0, .ref qo, .int (F 6 k)])) (congrArg (fun z => F0 m9 14 ls (Value.int z :: [.int 0, .ref qo, .int (F 6 k)])) ((hv.g0 hk).trans ec)) ?_
  refine lv_iadd hx hb (x := 0) (y := (nI c)) dL_isWithin_14 ?_
  refine W.eq (g2 := F0 m9 15 ls (.int (nI (0 + c)) :: [.ref qo, .int (F 6 k)])) (congrArg (fun z => F0 m9 15 ls (Value.int z :: [.ref qo, .int (F 6 k)])) (nI_add 0 c)) ?_
  refine xiald (g := (0 + c)) hx hb hK hP 1 0 rfl rfl (by omega) (by decide) dL_isWithin_15 ?_
  refine W.eq (g2 := F0 m9 16 ls (.int (F 1 c) :: [.int (F 6 k)])) (congrArg (fun z => F0 m9 16 ls (Value.int z :: [.int (F 6 k)])) (hv.m0 hc1 hc2)) ?_
  refine lv_icmp_gt (x := (F 6 k)) (y := (F 1 c)) (tgt := 54) hx hb dL_isWithin_16 (by decide) (fun c_16 => ?_) (fun c_16 => ?_)
  · skip
    refine lv_iconst (v := 0) hx hb dL_isWithin_54 (by decide) ?_
    exact W.zret hx hb hr zn0 (fun t ht9 hW => ⟨⟨_, (), rfl, (by show 0 = bi (sWithin F 1 k); exact (congrArg bi (wi_f1 ec hc2 c_16)).symm), trivial⟩, hS.F ht9⟩) hS.2.2 dL_isWithin_55
  · skip
    refine lv_aload_n hx hb dL_isWithin_19 rfl (lv_at hl 0 rfl) ?_
    refine lv_iconst (v := 3) hx hb dL_isWithin_20 (by decide) ?_
    refine lv_iload_n hx hb dL_isWithin_21 rfl (lv_at hl 2 rfl) ?_
    refine lv_imul hx hb (x := 3) (y := (nI k)) dL_isWithin_22 ?_
    refine W.eq (g2 := F0 m9 23 ls (.int (nI (3 * k)) :: [.ref qg])) (congrArg (fun z => F0 m9 23 ls (Value.int z :: [.ref qg])) (pk_mul 3 k)) ?_
    refine lv_iconst (v := 1) hx hb dL_isWithin_23 (by decide) ?_
    refine lv_iadd hx hb (x := (nI (3 * k))) (y := 1) dL_isWithin_24 ?_
    refine W.eq (g2 := F0 m9 25 ls (.int (nI ((3 * k) + 1)) :: [.ref qg])) (congrArg (fun z => F0 m9 25 ls (Value.int z :: [.ref qg])) (nI_add (3 * k) 1)) ?_
    refine xiald (g := ((3 * k) + 1)) hx hb hK hP 0 0 rfl rfl (by omega) (by decide) dL_isWithin_25 ?_
    refine W.eq (g2 := F0 m9 26 ls (.int (gs F k) :: [])) (congrArg (fun z => F0 m9 26 ls (Value.int z :: [])) (hv.g1 hk)) ?_
    refine lv_if_eq (x := (gs F k)) (tgt := 50) hx hb dL_isWithin_26 (by decide) (fun c_26 => ?_) (fun c_26 => ?_)
    · skip
      refine lv_iconst (v := 1) hx hb dL_isWithin_50 (by decide) ?_
      refine lv_goto (tgt := 55) hx hb dL_isWithin_51 (by decide) ?_
      exact W.zret hx hb hr zn1 (fun t ht9 hW => ⟨⟨_, (), rfl, (by show 1 = bi (sWithin F 1 k); exact (congrArg bi (wi_t1 ec hc2 c_16 (gs_0 hw hk c_26))).symm), trivial⟩, hS.F ht9⟩) hS.2.2 dL_isWithin_55
    · skip
      obtain ⟨d, hd1, hd2, e5, eg⟩ := gs_n hw hk c_26
      refine lv_aload_n hx hb dL_isWithin_29 rfl (lv_at hl 0 rfl) ?_
      refine lv_iconst (v := 3) hx hb dL_isWithin_30 (by decide) ?_
      refine lv_iload_n hx hb dL_isWithin_31 rfl (lv_at hl 2 rfl) ?_
      refine lv_imul hx hb (x := 3) (y := (nI k)) dL_isWithin_32 ?_
      refine W.eq (g2 := F0 m9 33 ls (.int (nI (3 * k)) :: [.ref qg])) (congrArg (fun z => F0 m9 33 ls (Value.int z :: [.ref qg])) (pk_mul 3 k)) ?_
      refine lv_iconst (v := 2) hx hb dL_isWithin_33 (by decide) ?_
      refine lv_iadd hx hb (x := (nI (3 * k))) (y := 2) dL_isWithin_34 ?_
      refine W.eq (g2 := F0 m9 35 ls (.int (nI ((3 * k) + 2)) :: [.ref qg])) (congrArg (fun z => F0 m9 35 ls (Value.int z :: [.ref qg])) (nI_add (3 * k) 2)) ?_
      refine xiald (g := ((3 * k) + 2)) hx hb hK hP 0 0 rfl rfl (by omega) (by decide) dL_isWithin_35 ?_
      refine W.eq (g2 := F0 m9 36 ls (.int (F 6 k) :: [])) (congrArg (fun z => F0 m9 36 ls (Value.int z :: [])) (hv.g2 hk)) ?_
      refine lv_aload_n hx hb dL_isWithin_36 rfl (lv_at hl 1 rfl) ?_
      refine lv_iload_n hx hb dL_isWithin_37 rfl (lv_at hl 3 rfl) ?_
      refine lv_aload_n hx hb dL_isWithin_38 rfl (lv_at hl 0 rfl) ?_
      refine lv_iconst (v := 3) hx hb dL_isWithin_39 (by decide) ?_
      refine lv_iload_n hx hb dL_isWithin_40 rfl (lv_at hl 2 rfl) ?_
      refine lv_imul hx hb (x := 3) (y := (nI k)) dL_isWithin_41 ?_
      refine W.eq (g2 := F0 m9 42 ls (.int (nI (3 * k)) :: [.ref qg, .int 0, .ref qo, .int (F 6 k)])) (congrArg (fun z => F0 m9 42 ls (Value.int z :: [.ref qg, .int 0, .ref qo, .int (F 6 k)])) (pk_mul 3 k)) ?_
      refine lv_iconst (v := 1) hx hb dL_isWithin_42 (by decide) ?_
      refine lv_iadd hx hb (x := (nI (3 * k))) (y := 1) dL_isWithin_43 ?_
      refine W.eq (g2 := F0 m9 44 ls (.int (nI ((3 * k) + 1)) :: [.ref qg, .int 0, .ref qo, .int (F 6 k)])) (congrArg (fun z => F0 m9 44 ls (Value.int z :: [.ref qg, .int 0, .ref qo, .int (F 6 k)])) (nI_add (3 * k) 1)) ?_
      refine xiald (g := ((3 * k) + 1)) hx hb hK hP 0 0 rfl rfl (by omega) (by decide) dL_isWithin_44 ?_
      refine W.eq (g2 := F0 m9 45 ls (.int (nI d) :: [.int 0, .ref qo, .int (F 6 k)])) (congrArg (fun z => F0 m9 45 ls (Value.int z :: [.int 0, .ref qo, .int (F 6 k)])) ((hv.g1 hk).trans eg)) ?_
      refine lv_iadd hx hb (x := 0) (y := (nI d)) dL_isWithin_45 ?_
      refine W.eq (g2 := F0 m9 46 ls (.int (nI (0 + d)) :: [.ref qo, .int (F 6 k)])) (congrArg (fun z => F0 m9 46 ls (Value.int z :: [.ref qo, .int (F 6 k)])) (nI_add 0 d)) ?_
      refine xiald (g := (0 + d)) hx hb hK hP 1 0 rfl rfl (by omega) (by decide) dL_isWithin_46 ?_
      refine W.eq (g2 := F0 m9 47 ls (.int (F 1 d) :: [.int (F 6 k)])) (congrArg (fun z => F0 m9 47 ls (Value.int z :: [.int (F 6 k)])) (hv.m0 hd1 hd2)) ?_
      refine lv_icmp_gt (x := (F 6 k)) (y := (F 1 d)) (tgt := 54) hx hb dL_isWithin_47 (by decide) (fun c_47 => ?_) (fun c_47 => ?_)
      · skip
        refine lv_iconst (v := 0) hx hb dL_isWithin_54 (by decide) ?_
        exact W.zret hx hb hr zn0 (fun t ht9 hW => ⟨⟨_, (), rfl, (by show 0 = bi (sWithin F 1 k); exact (congrArg bi (wi_f2 ec hc2 c_16 e5 hd2 c_47)).symm), trivial⟩, hS.F ht9⟩) hS.2.2 dL_isWithin_55
      · skip
        refine lv_iconst (v := 1) hx hb dL_isWithin_50 (by decide) ?_
        refine lv_goto (tgt := 55) hx hb dL_isWithin_51 (by decide) ?_
        exact W.zret hx hb hr zn1 (fun t ht9 hW => ⟨⟨_, (), rfl, (by show 1 = bi (sWithin F 1 k); exact (congrArg bi (wi_t2 ec hc2 c_16 e5 hd2 c_47)).symm), trivial⟩, hS.F ht9⟩) hS.2.2 dL_isWithin_55
set_option maxHeartbeats 8000000 in
set_option maxRecDepth 100000 in
theorem c_L_need (l : Launch) (D : va_G) (cI cZ : ClassId) (qt : Nat) (T : Nat → Int32) (qo : Nat) (M : Nat → Int32) (qg : Nat) (G : Nat → Int32) (a : Nat) (b : Nat) {F : Nat → Nat → Int32} {n : Nat} (hw : WF F n) (hv : IV F n T M G) (hga : a < n) (hgb : b < n) : Met l yL_need wsL_need ({ frames := 1, cells := 0, slots := 0, locals := 23 }) (va_Pc [.ref qt, .ref qo, .ref qg, .int (nI a), .int (nI b)] (rW D ([(qt, .inl (cI, 64, .inl T)), (qo, .inl (cI, 30, .inl M)), (qg, .inl (cI, 48, .inl G))] : va_W) (tIZ cI cZ))) (RO (fun r => r = sNeed F a b)) 0 0 nA := by
  refine ro_of (own := RL) (cc := cL_need) (maxL := 10) (ret := (some .int)) (by decide) rfl rfl (Nat.le_of_ble_eq_true rfl) ?_
  intro p9 e9 s m9 a9 below meth c9 ls hx hb hr hml hlocks hown hts hP hK hl
  have hS : va_S nA s.heap s.heap [] := va_S.rf
  have hl : lv_has ls 10 [(0, .ref qt), (1, .ref qo), (2, .ref qg), (3, .int (nI a)), (4, .int (nI b))] := hl
  have hn10 := hv.n
  refine lv_iconst (v := 0) hx hb dL_need_0 (by decide) ?_
  refine lv_istore (lv' := [(5, .int 0), (0, .ref qt), (1, .ref qo), (2, .ref qg), (3, .int (nI a)), (4, .int (nI b))]) hx hb dL_need_1 hl (by decide) rfl (fun ls hl => ?_)
  refine lv_iconst (v := 0) hx hb dL_need_3 (by decide) ?_
  refine lv_istore (lv' := [(6, .int 0), (5, .int 0), (0, .ref qt), (1, .ref qo), (2, .ref qg), (3, .int (nI a)), (4, .int (nI b))]) hx hb dL_need_4 hl (by decide) rfl (fun ls hl => ?_)
  have L6 : ∀ (d9 : Nat) (k : Nat) (H : Heap) (locs : List Loc) (ls : Array Slot), 4 - k < d9 → (k ≤ 4) → va_P D vwCl [(qt, .inl (cI, 64, .inl (T))), (qo, .inl (cI, 30, .inl (M))), (qg, .inl (cI, 48, .inl (G)))] H → va_S nA s.heap H locs → lv_has ls 10 [(6, .int (nI k)), (5, .int (nacc F a b k)), (0, .ref qt), (1, .ref qo), (2, .ref qg), (3, .int (nI a)), (4, .int (nI b))] → W p9 l e9 ({ frames := 1, cells := 0, slots := 0, locals := 23 }) s m9 a9 below meth c9 H locs (0) (0) (MQ below (RO (fun r => r = sNeed F a b)) a9 s 0 0 nA) (F0 m9 6 ls []) := by
    intro d9
    induction d9 with
    | zero => intro k H locs ls h9; exact absurd h9 (Nat.not_lt_zero _)
    | succ d9 ih6 =>
      intro k H locs ls hd6 hk hP hS hl
      refine lv_iload hx hb dL_need_6 (lv_at hl 0 rfl) ?_
      refine lv_iconst (v := 4) hx hb dL_need_8 (by decide) ?_
      refine lv_icmp_ge (x := (nI k)) (y := 4) (tgt := 83) hx hb dL_need_9 (by decide) (fun c_9 => ?_) (fun c_9 => ?_)
      · have c_9 := nl_ge (k := k) (n := 4) c_9 (by omega) (by omega)
        obtain rfl : k = 4 := by omega
        have e5 : nacc F a b 4 = sGreat F a b := nacc_4 hw hga hgb
        rw [e5] at hl
        refine lv_aload_n hx hb dL_need_83 rfl (lv_at hl 4 rfl) ?_
        refine lv_aload_n hx hb dL_need_84 rfl (lv_at hl 3 rfl) ?_
        refine lv_iload_n hx hb dL_need_85 rfl (lv_at hl 5 rfl) ?_
        refine lv_bipush (v := 10) hx hb dL_need_86 (by decide) ?_
        refine ro_SW (As := [.ref qg, .ref qo, .int (nI a), .int 10]) (rest := []) ⟨hx, hb, hml, hown, hts⟩ (c_L_isWithin_10 l D cI cZ qg (G) qo (M) a (F := F) (n := n) (T := T) hw hv hga) (va_cwS 4 hts gL_need_L_isWithin rfl rfl rfl (by decide +kernel) ⟨Nat.le_of_ble_eq_true rfl, Nat.le_of_ble_eq_true rfl⟩) hK hP (hP.sub [2, 1] rfl) hS rfl hl.1 rfl (Nat.le_of_ble_eq_true rfl) dL_need_88 ⟨Nat.le_of_ble_eq_true rfl, Nat.le_of_ble_eq_true rfl⟩ (fun r9 H locs h_88 hP hS => ?_)
        obtain rfl := h_88
        refine lv_if_ne (x := (bi (sWithin F 2 a))) (tgt := 106) hx hb dL_need_91 (by decide) (fun c_91 => ?_) (fun c_91 => ?_)
        · have c_91 := bi_n0.mp c_91
          refine lv_iconst (v := 0) hx hb dL_need_106 (by decide) ?_
          exact W.iret hx hb hr (fun t ht9 hW => ⟨⟨_, (), rfl, (by show 0 = sNeed F a b; exact by rw [need_eq hw hga hgb]; unfold mNeed; rw [← great_eq hw hga hgb]; simp [sExc, sLim, c_91]), trivial⟩, hS.F ht9⟩) hS.2.2 dL_need_107
        · have c_91 := bi_e0.mp c_91
          refine lv_aload_n hx hb dL_need_94 rfl (lv_at hl 4 rfl) ?_
          refine lv_aload_n hx hb dL_need_95 rfl (lv_at hl 3 rfl) ?_
          refine lv_iload hx hb dL_need_96 (lv_at hl 6 rfl) ?_
          refine lv_bipush (v := 10) hx hb dL_need_98 (by decide) ?_
          refine ro_SW (As := [.ref qg, .ref qo, .int (nI b), .int 10]) (rest := []) ⟨hx, hb, hml, hown, hts⟩ (c_L_isWithin_10 l D cI cZ qg (G) qo (M) b (F := F) (n := n) (T := T) hw hv hgb) (va_cwS 4 hts gL_need_L_isWithin rfl rfl rfl (by decide +kernel) ⟨Nat.le_of_ble_eq_true rfl, Nat.le_of_ble_eq_true rfl⟩) hK hP (hP.sub [2, 1] rfl) hS rfl hl.1 rfl (Nat.le_of_ble_eq_true rfl) dL_need_100 ⟨Nat.le_of_ble_eq_true rfl, Nat.le_of_ble_eq_true rfl⟩ (fun r9 H locs h_100 hP hS => ?_)
          obtain rfl := h_100
          refine lv_if_eq (x := (bi (sWithin F 2 b))) (tgt := 108) hx hb dL_need_103 (by decide) (fun c_103 => ?_) (fun c_103 => ?_)
          · have c_103 := bi_e0.mp c_103
            refine lv_iload hx hb dL_need_108 (lv_at hl 1 rfl) ?_
            refine lv_if_le (x := (sGreat F a b)) (tgt := 141) hx hb dL_need_110 (by decide) (fun c_110 => ?_) (fun c_110 => ?_)
            · skip
              refine lv_iload hx hb dL_need_141 (lv_at hl 1 rfl) ?_
              exact W.iret hx hb hr (fun t ht9 hW => ⟨⟨_, (), rfl, (by show (sGreat F a b) = sNeed F a b; exact by rw [need_eq hw hga hgb]; unfold mNeed; rw [← great_eq hw hga hgb]; simp [sExc, sLim, c_91, c_103, eq_true c_110]), trivial⟩, hS.F ht9⟩) hS.2.2 dL_need_143
            · skip
              refine lv_aload_n hx hb dL_need_113 rfl (lv_at hl 4 rfl) ?_
              refine lv_aload_n hx hb dL_need_114 rfl (lv_at hl 3 rfl) ?_
              refine lv_iload_n hx hb dL_need_115 rfl (lv_at hl 5 rfl) ?_
              refine lv_iconst (v := 0) hx hb dL_need_116 (by decide) ?_
              refine ro_SW (As := [.ref qg, .ref qo, .int (nI a), .int 0]) (rest := []) ⟨hx, hb, hml, hown, hts⟩ (c_L_isWithin_0 l D cI cZ qg (G) qo (M) a (F := F) (n := n) (T := T) hw hv hga) (va_cwS 4 hts gL_need_L_isWithin rfl rfl rfl (by decide +kernel) ⟨Nat.le_of_ble_eq_true rfl, Nat.le_of_ble_eq_true rfl⟩) hK hP (hP.sub [2, 1] rfl) hS rfl hl.1 rfl (Nat.le_of_ble_eq_true rfl) dL_need_117 ⟨Nat.le_of_ble_eq_true rfl, Nat.le_of_ble_eq_true rfl⟩ (fun r9 H locs h_117 hP hS => ?_)
              obtain rfl := h_117
              refine lv_if_ne (x := (bi (sWithin F 1 a))) (tgt := 134) hx hb dL_need_120 (by decide) (fun c_120 => ?_) (fun c_120 => ?_)
              · have c_120 := bi_n0.mp c_120
                refine lv_iload hx hb dL_need_134 (lv_at hl 1 rfl) ?_
                refine lv_iconst (v := 1) hx hb dL_need_136 (by decide) ?_
                refine lv_isub hx hb (x := (sGreat F a b)) (y := 1) dL_need_137 ?_
                refine lv_goto (tgt := 143) hx hb dL_need_138 (by decide) ?_
                exact W.iret hx hb hr (fun t ht9 hW => ⟨⟨_, (), rfl, (by show ((sGreat F a b) - 1) = sNeed F a b; exact by rw [need_eq hw hga hgb]; unfold mNeed; rw [← great_eq hw hga hgb]; simp [sExc, sLim, c_91, c_103, eq_false c_110, c_120]), trivial⟩, hS.F ht9⟩) hS.2.2 dL_need_143
              · have c_120 := bi_e0.mp c_120
                refine lv_aload_n hx hb dL_need_123 rfl (lv_at hl 4 rfl) ?_
                refine lv_aload_n hx hb dL_need_124 rfl (lv_at hl 3 rfl) ?_
                refine lv_iload hx hb dL_need_125 (lv_at hl 6 rfl) ?_
                refine lv_iconst (v := 0) hx hb dL_need_127 (by decide) ?_
                refine ro_SW (As := [.ref qg, .ref qo, .int (nI b), .int 0]) (rest := []) ⟨hx, hb, hml, hown, hts⟩ (c_L_isWithin_0 l D cI cZ qg (G) qo (M) b (F := F) (n := n) (T := T) hw hv hgb) (va_cwS 4 hts gL_need_L_isWithin rfl rfl rfl (by decide +kernel) ⟨Nat.le_of_ble_eq_true rfl, Nat.le_of_ble_eq_true rfl⟩) hK hP (hP.sub [2, 1] rfl) hS rfl hl.1 rfl (Nat.le_of_ble_eq_true rfl) dL_need_128 ⟨Nat.le_of_ble_eq_true rfl, Nat.le_of_ble_eq_true rfl⟩ (fun r9 H locs h_128 hP hS => ?_)
                obtain rfl := h_128
                refine lv_if_eq (x := (bi (sWithin F 1 b))) (tgt := 141) hx hb dL_need_131 (by decide) (fun c_131 => ?_) (fun c_131 => ?_)
                · have c_131 := bi_e0.mp c_131
                  refine lv_iload hx hb dL_need_141 (lv_at hl 1 rfl) ?_
                  exact W.iret hx hb hr (fun t ht9 hW => ⟨⟨_, (), rfl, (by show (sGreat F a b) = sNeed F a b; exact by rw [need_eq hw hga hgb]; unfold mNeed; rw [← great_eq hw hga hgb]; simp [sExc, sLim, c_91, c_103, eq_false c_110, c_120, c_131]), trivial⟩, hS.F ht9⟩) hS.2.2 dL_need_143
                · have c_131 := bi_n0.mp c_131
                  refine lv_iload hx hb dL_need_134 (lv_at hl 1 rfl) ?_
                  refine lv_iconst (v := 1) hx hb dL_need_136 (by decide) ?_
                  refine lv_isub hx hb (x := (sGreat F a b)) (y := 1) dL_need_137 ?_
                  refine lv_goto (tgt := 143) hx hb dL_need_138 (by decide) ?_
                  exact W.iret hx hb hr (fun t ht9 hW => ⟨⟨_, (), rfl, (by show ((sGreat F a b) - 1) = sNeed F a b; exact by rw [need_eq hw hga hgb]; unfold mNeed; rw [← great_eq hw hga hgb]; simp [sExc, sLim, c_91, c_103, eq_false c_110, c_120, c_131]), trivial⟩, hS.F ht9⟩) hS.2.2 dL_need_143
          · have c_103 := bi_n0.mp c_103
            refine lv_iconst (v := 0) hx hb dL_need_106 (by decide) ?_
            exact W.iret hx hb hr (fun t ht9 hW => ⟨⟨_, (), rfl, (by show 0 = sNeed F a b; exact by rw [need_eq hw hga hgb]; unfold mNeed; rw [← great_eq hw hga hgb]; simp [sExc, sLim, c_91, c_103]), trivial⟩, hS.F ht9⟩) hS.2.2 dL_need_107
      · have c_9 := nl_lt (k := k) (n := 4) c_9 (by omega) (by omega)
        refine lv_aload_n hx hb dL_need_12 rfl (lv_at hl 4 rfl) ?_
        refine lv_iconst (v := 3) hx hb dL_need_13 (by decide) ?_
        refine lv_iload_n hx hb dL_need_14 rfl (lv_at hl 5 rfl) ?_
        refine lv_imul hx hb (x := 3) (y := (nI a)) dL_need_15 ?_
        refine W.eq (g2 := F0 m9 16 ls (.int (nI (3 * a)) :: [.ref qg])) (congrArg (fun z => F0 m9 16 ls (Value.int z :: [.ref qg])) (pk_mul 3 a)) ?_
        refine lv_iload hx hb dL_need_16 (lv_at hl 0 rfl) ?_
        refine lv_iconst (v := 2) hx hb dL_need_18 (by decide) ?_
        refine lv_irem hx hb (x := (nI k)) (y := 2) dL_need_19 (by decide) ?_
        refine W.eq (g2 := F0 m9 20 ls (.int (nI (k % 2)) :: [.int (nI (3 * a)), .ref qg])) (congrArg (fun z => F0 m9 20 ls (Value.int z :: [.int (nI (3 * a)), .ref qg])) (pk_rem (a := k) (d := 2) (by omega) (by omega) (by omega))) ?_
        refine lv_iadd hx hb (x := (nI (3 * a))) (y := (nI (k % 2))) dL_need_20 ?_
        refine W.eq (g2 := F0 m9 21 ls (.int (nI ((3 * a) + (k % 2))) :: [.ref qg])) (congrArg (fun z => F0 m9 21 ls (Value.int z :: [.ref qg])) (nI_add (3 * a) (k % 2))) ?_
        refine xiald (g := ((3 * a) + (k % 2))) hx hb hK hP 2 0 rfl rfl (by omega) (by decide) dL_need_21 ?_
        refine W.eq (g2 := F0 m9 22 ls (.int (gv F a (k % 2)) :: [])) (congrArg (fun z => F0 m9 22 ls (Value.int z :: [])) (hv.gv hga (by omega))) ?_
        refine lv_istore (lv' := [(7, .int (gv F a (k % 2))), (6, .int (nI k)), (5, .int (nacc F a b k)), (0, .ref qt), (1, .ref qo), (2, .ref qg), (3, .int (nI a)), (4, .int (nI b))]) hx hb dL_need_22 hl (by decide) rfl (fun ls hl => ?_)
        refine lv_aload_n hx hb dL_need_24 rfl (lv_at hl 5 rfl) ?_
        refine lv_iconst (v := 3) hx hb dL_need_25 (by decide) ?_
        refine lv_iload hx hb dL_need_26 (lv_at hl 7 rfl) ?_
        refine lv_imul hx hb (x := 3) (y := (nI b)) dL_need_28 ?_
        refine W.eq (g2 := F0 m9 29 ls (.int (nI (3 * b)) :: [.ref qg])) (congrArg (fun z => F0 m9 29 ls (Value.int z :: [.ref qg])) (pk_mul 3 b)) ?_
        refine lv_iload hx hb dL_need_29 (lv_at hl 1 rfl) ?_
        refine lv_iconst (v := 2) hx hb dL_need_31 (by decide) ?_
        refine lv_idiv hx hb (x := (nI k)) (y := 2) dL_need_32 (by decide) ?_
        refine W.eq (g2 := F0 m9 33 ls (.int (nI (k / 2)) :: [.int (nI (3 * b)), .ref qg])) (congrArg (fun z => F0 m9 33 ls (Value.int z :: [.int (nI (3 * b)), .ref qg])) (pk_div (a := k) (d := 2) (by omega) (by omega) (by omega))) ?_
        refine lv_iadd hx hb (x := (nI (3 * b))) (y := (nI (k / 2))) dL_need_33 ?_
        refine W.eq (g2 := F0 m9 34 ls (.int (nI ((3 * b) + (k / 2))) :: [.ref qg])) (congrArg (fun z => F0 m9 34 ls (Value.int z :: [.ref qg])) (nI_add (3 * b) (k / 2))) ?_
        refine xiald (g := ((3 * b) + (k / 2))) hx hb hK hP 2 0 rfl rfl (by omega) (by decide) dL_need_34 ?_
        refine W.eq (g2 := F0 m9 35 ls (.int (gv F b (k / 2)) :: [])) (congrArg (fun z => F0 m9 35 ls (Value.int z :: [])) (hv.gv hgb (by omega))) ?_
        refine lv_istore (lv' := [(8, .int (gv F b (k / 2))), (7, .int (gv F a (k % 2))), (6, .int (nI k)), (5, .int (nacc F a b k)), (0, .ref qt), (1, .ref qo), (2, .ref qg), (3, .int (nI a)), (4, .int (nI b))]) hx hb dL_need_35 hl (by decide) rfl (fun ls hl => ?_)
        have J59 : ∀  (H : Heap) (locs : List Loc) (ls : Array Slot), va_P D vwCl [(qt, .inl (cI, 64, .inl (T))), (qo, .inl (cI, 30, .inl (M))), (qg, .inl (cI, 48, .inl (G)))] H → va_S nA s.heap H locs → lv_has ls 10 [(6, .int (nI k)), (5, .int (nacc F a b k)), (0, .ref qt), (1, .ref qo), (2, .ref qg), (3, .int (nI a)), (4, .int (nI b))] → W p9 l e9 ({ frames := 1, cells := 0, slots := 0, locals := 23 }) s m9 a9 below meth c9 H locs (0) (0) (MQ below (RO (fun r => r = sNeed F a b)) a9 s 0 0 nA) (F0 m9 59 ls [.int (nd F a b k)]) := by
          intro  H locs ls  hP hS hl
          refine lv_istore (lv' := [(9, .int (nd F a b k)), (6, .int (nI k)), (5, .int (nacc F a b k)), (0, .ref qt), (1, .ref qo), (2, .ref qg), (3, .int (nI a)), (4, .int (nI b))]) hx hb dL_need_59 hl (by decide) rfl (fun ls hl => ?_)
          refine lv_iload hx hb dL_need_61 (lv_at hl 0 rfl) ?_
          refine lv_iload hx hb dL_need_63 (lv_at hl 2 rfl) ?_
          refine lv_icmp_le (x := (nd F a b k)) (y := (nacc F a b k)) (tgt := 73) hx hb dL_need_65 (by decide) (fun c_65 => ?_) (fun c_65 => ?_)
          · skip
            refine lv_iload hx hb dL_need_73 (lv_at hl 2 rfl) ?_
            refine lv_istore (lv' := [(5, .int (nacc F a b k)), (9, .int (nd F a b k)), (6, .int (nI k)), (0, .ref qt), (1, .ref qo), (2, .ref qg), (3, .int (nI a)), (4, .int (nI b))]) hx hb dL_need_75 hl (by decide) rfl (fun ls hl => ?_)
            refine lv_iinc (v := (nI (k + 1))) (lv' := [(6, .int (nI (k + 1))), (5, .int (nacc F a b k)), (9, .int (nd F a b k)), (0, .ref qt), (1, .ref qo), (2, .ref qg), (3, .int (nI a)), (4, .int (nI b))]) hx hb dL_need_77 hl (k := 2) rfl (nI_add k 1) (by decide) rfl (fun ls hl => ?_)
            refine lv_goto (tgt := 6) hx hb dL_need_80 (by decide) ?_
            have e5 : (nacc F a b k) = (nacc F a b (k + 1)) := by show _ = if nd F a b k ≤ nacc F a b k then _ else _; rw [if_pos c_65]
            have hl : lv_has ls 10 [(6, .int (nI (k + 1))), (5, .int (nacc F a b (k + 1))), (9, .int (nd F a b k)), (0, .ref qt), (1, .ref qo), (2, .ref qg), (3, .int (nI a)), (4, .int (nI b))] := by rw [← e5]; exact hl
            exact ih6 (k + 1) _ _ _ (by omega) (by omega) hP hS (lv_sub hl [0, 1, 3, 4, 5, 6, 7] rfl)
          · skip
            refine lv_iload hx hb dL_need_68 (lv_at hl 0 rfl) ?_
            refine lv_goto (tgt := 75) hx hb dL_need_70 (by decide) ?_
            refine lv_istore (lv' := [(5, .int (nd F a b k)), (9, .int (nd F a b k)), (6, .int (nI k)), (0, .ref qt), (1, .ref qo), (2, .ref qg), (3, .int (nI a)), (4, .int (nI b))]) hx hb dL_need_75 hl (by decide) rfl (fun ls hl => ?_)
            refine lv_iinc (v := (nI (k + 1))) (lv' := [(6, .int (nI (k + 1))), (5, .int (nd F a b k)), (9, .int (nd F a b k)), (0, .ref qt), (1, .ref qo), (2, .ref qg), (3, .int (nI a)), (4, .int (nI b))]) hx hb dL_need_77 hl (k := 2) rfl (nI_add k 1) (by decide) rfl (fun ls hl => ?_)
            refine lv_goto (tgt := 6) hx hb dL_need_80 (by decide) ?_
            have e5 : (nd F a b k) = (nacc F a b (k + 1)) := by show _ = if nd F a b k ≤ nacc F a b k then _ else _; rw [if_neg c_65]
            have hl : lv_has ls 10 [(6, .int (nI (k + 1))), (5, .int (nacc F a b (k + 1))), (9, .int (nd F a b k)), (0, .ref qt), (1, .ref qo), (2, .ref qg), (3, .int (nI a)), (4, .int (nI b))] := by rw [← e5]; exact hl
            exact ih6 (k + 1) _ _ _ (by omega) (by omega) hP hS (lv_sub hl [0, 1, 3, 4, 5, 6, 7] rfl)
        refine lv_iload hx hb dL_need_37 (lv_at hl 1 rfl) ?_
        refine lv_if_eq (x := (gv F a (k % 2))) (tgt := 47) hx hb dL_need_39 (by decide) (fun c_39 => ?_) (fun c_39 => ?_)
        · skip
          refine lv_iconst (v := 0) hx hb dL_need_47 (by decide) ?_
          refine lv_goto (tgt := 59) hx hb dL_need_48 (by decide) ?_
          refine W.eq (g2 := F0 m9 59 ls (.int (nd F a b k) :: [])) (congrArg (fun z => F0 m9 59 ls (Value.int z :: [])) (nd_a (b := b) hw hga c_9 c_39)) ?_
          exact J59  _ _ _  hP hS (lv_sub hl [2, 3, 4, 5, 6, 7, 8] rfl)
        · skip
          refine lv_iload hx hb dL_need_42 (lv_at hl 0 rfl) ?_
          refine lv_if_ne (x := (gv F b (k / 2))) (tgt := 51) hx hb dL_need_44 (by decide) (fun c_44 => ?_) (fun c_44 => ?_)
          · skip
            obtain ⟨c, hc1, hc2, eg, e5⟩ := gv_n hw hga (by omega) c_39
            obtain ⟨d, hd1, hd2, eh, e6⟩ := gv_n hw hgb (by omega) c_44
            refine lv_aload_n hx hb dL_need_51 rfl (lv_at hl 4 rfl) ?_
            refine lv_iload hx hb dL_need_52 (lv_at hl 1 rfl) ?_
            refine W.eq (g2 := F0 m9 54 ls (.int (nI c) :: [.ref qt])) (congrArg (fun z => F0 m9 54 ls (Value.int z :: [.ref qt])) (eg)) ?_
            refine lv_iload hx hb dL_need_54 (lv_at hl 0 rfl) ?_
            refine W.eq (g2 := F0 m9 56 ls (.int (nI d) :: [.int (nI c), .ref qt])) (congrArg (fun z => F0 m9 56 ls (Value.int z :: [.int (nI c), .ref qt])) (eh)) ?_
            refine ro_SW (As := [.ref qt, .int (nI c), .int (nI d)]) (rest := []) ⟨hx, hb, hml, hown, hts⟩ (c_L_table l D cI cZ qt (T) c d hc1 hc2 hd1 hd2) (va_cwS 3 hts gL_need_L_table rfl rfl rfl (by decide +kernel) ⟨Nat.le_of_ble_eq_true rfl, Nat.le_of_ble_eq_true rfl⟩) hK hP (hP.sub [0] rfl) hS rfl hl.1 rfl (Nat.le_of_ble_eq_true rfl) dL_need_56 ⟨Nat.le_of_ble_eq_true rfl, Nat.le_of_ble_eq_true rfl⟩ (fun r9 H locs h_56 hP hS => ?_)
            obtain rfl := h_56
            refine W.eq (g2 := F0 m9 59 ls (.int (nd F a b k) :: [])) (congrArg (fun z => F0 m9 59 ls (Value.int z :: [])) (nd_t hv hc1 hc2 hd1 hd2 e5 e6)) ?_
            exact J59  _ _ _  hP hS (lv_sub hl [2, 3, 4, 5, 6, 7, 8] rfl)
          · skip
            refine lv_iconst (v := 0) hx hb dL_need_47 (by decide) ?_
            refine lv_goto (tgt := 59) hx hb dL_need_48 (by decide) ?_
            refine W.eq (g2 := F0 m9 59 ls (.int (nd F a b k) :: [])) (congrArg (fun z => F0 m9 59 ls (Value.int z :: [])) (nd_b (a := a) hw hgb c_9 c_44)) ?_
            exact J59  _ _ _  hP hS (lv_sub hl [2, 3, 4, 5, 6, 7, 8] rfl)
  exact L6 _ 0 _ _ _ (Nat.lt_succ_self _) (by omega) hP hS (lv_sub hl [0, 1, 2, 3, 4, 5, 6] rfl)

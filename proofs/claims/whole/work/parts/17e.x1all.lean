/-! the reference: loops, calls that write -/
set_option maxHeartbeats 4000000 in
set_option maxRecDepth 100000 in
theorem c_X1_breaches (l : Launch) (D : va_G) (q : Nat → Nat) (F : Nat → Nat → Int32) (n : Nat) (R : Nat → Int32) (th : Int32) (cI cZ : ClassId) (sz : Nat) (hw : WF F n) : Met l yX1_breaches wsX1_breaches ({ frames := 6, cells := 0, slots := 0, locals := 136 }) (va_Pc [.ref (q 9)] (wS D (wM q F (nI n) R th cI cZ) (tIZ cI cZ) sz)) (va_Qi (fun (r : Int32) (u : Int32) => u = 0 ∧ r = nI (mBr F n 256 / 2)) (wB D (va_A (wM q F (nI n) R th cI cZ) sz) (fun (u : Int32) => wM q F (nI n) R u cI cZ)) (va_A (wM q F (nI n) R th cI cZ) sz)) 0 0 (va_A (wM q F (nI n) R th cI cZ) sz) := by
  refine wr_of (own := RX1) (cc := cX1_breaches) (maxL := 3) (ret := (some .int)) (by decide) rfl rfl (Nat.le_of_ble_eq_true rfl) ?_
  intro p9 e9 s m9 a9 below meth c9 ls A hx hb hr hml hlocks hown hts hP hK hD hA hl
  have hin : ∀ w ∈ wsX10, w ∈ wsX1_breaches := by decide +kernel
  have f38 := hts (.fieldLink RX1 38 "DangerousGoodsModel" "thrown" "I") (by decide +kernel)
  have f46 := hts (.fieldLink RX1 46 "DangerousGoodsModel" "goods" "I") (by decide +kernel)
  have hS : va_S A s.heap s.heap [] := va_S.rf
  have hl : lv_has ls 3 [(0, .ref (q 9))] := hl
  refine lv_aload_n hx hb dX1_breaches_0 rfl (lv_at hl 0 rfl) ?_
  refine lv_iconst (v := 0) hx hb dX1_breaches_1 (by decide) ?_
  refine va_put (D := D) (ci := 1) (v := .int 0) (ty := .int) hx hb hts hin tyX1 tyX1_ok nmX1 hown hK hP hD hS 0 rfl rfl 10 (by decide) f38 (fun _ h9 => h9) rfl (by decide +kernel) rfl rfl (Nat.le_of_ble_eq_true rfl) dX1_breaches_2 (fun H locs hP hD hS => ?_)
  have hP : va_P D vwCl (wM q F (nI n) R 0 cI cZ) H := hP
  have hD : va_D A (wM q F (nI n) R 0 cI cZ) := hD
  refine lv_iconst (v := 0) hx hb dX1_breaches_5 (by decide) ?_
  refine lv_istore_n (lv' := [(1, .int 0), (0, .ref (q 9))]) hx hb dX1_breaches_6 rfl hl (by decide) rfl (fun ls hl => ?_)
  refine lv_iconst (v := 0) hx hb dX1_breaches_7 (by decide) ?_
  refine lv_istore_n (lv' := [(2, .int 0), (1, .int 0), (0, .ref (q 9))]) hx hb dX1_breaches_8 rfl hl (by decide) rfl (fun ls hl => ?_)
  have L9 : ∀ (d9 : Nat) (k : Nat) (H : Heap) (locs : List Loc) (ls : Array Slot), 256 - k < d9 → (k ≤ 256) → va_P D vwCl (wM q F (nI n) R 0 cI cZ) H → va_D A (wM q F (nI n) R 0 cI cZ) → va_S A s.heap H locs → lv_has ls 3 [(2, .int (nI k)), (1, .int (nI (mBr F n k))), (0, .ref (q 9))] → W p9 l e9 ({ frames := 6, cells := 0, slots := 0, locals := 136 }) s m9 a9 below meth c9 H locs 0 0 (MQ below (va_Qi (fun (r : Int32) (u : Int32) => u = 0 ∧ r = nI (mBr F n 256 / 2)) (wB D A (fun (u : Int32) => wM q F (nI n) R u cI cZ)) A) a9 s 0 0 A) (F0 m9 9 ls []) := by
    intro d9
    induction d9 with
    | zero => intro k H locs ls h9; exact absurd h9 (Nat.not_lt_zero _)
    | succ d9 ih9 =>
      intro k H locs ls hd9 hk hP hD hS hl
      refine lv_iload_n hx hb dX1_breaches_9 rfl (lv_at hl 0 rfl) ?_
      refine lv_sipush (v := 256) hx hb dX1_breaches_10 (by decide) ?_
      refine lv_icmp_ge (x := (nI k)) (y := 256) (tgt := 60) hx hb dX1_breaches_13 (by decide) (fun c_13 => ?_) (fun c_13 => ?_)
      · have hk13 : k = 256 := Nat.le_antisymm hk (nI_ge_of (n := 256) c_13 (by omega) (by decide))
        refine lv_iload_n hx hb dX1_breaches_60 rfl (lv_at hl 1 rfl) ?_
        refine lv_iconst (v := 2) hx hb dX1_breaches_61 (by decide) ?_
        refine lv_idiv hx hb (x := (nI (mBr F n k))) (y := 2) dX1_breaches_62 (by decide) ?_
        exact W.iret hx hb hr (fun t ht hW => ⟨⟨_, 0, rfl, (by show 0 = 0 ∧ ((nI (mBr F n k)) / 2) = nI (mBr F n 256 / 2); rw [hk13]; exact ⟨rfl, div_2 (by have := mBr_le F n 256; omega)⟩), by rw [ht]; exact hP, hD⟩, hS.F ht⟩) hS.2.2 dX1_breaches_63
      · have hk13 : k < 256 := nI_lt_of (n := 256) c_13 (by omega)
        refine lv_iload_n hx hb dX1_breaches_16 rfl (lv_at hl 1 rfl) ?_
        refine lv_iload_n hx hb dX1_breaches_17 rfl (lv_at hl 0 rfl) ?_
        refine lv_bipush (v := 16) hx hb dX1_breaches_18 (by decide) ?_
        refine lv_idiv hx hb (x := (nI k)) (y := 16) dX1_breaches_20 (by decide) ?_
        refine W.eq (g2 := F0 m9 21 ls (.int (nI (k / 16)) :: [.int (nI (mBr F n k))])) (congrArg (fun z => F0 m9 21 ls (Value.int z :: [.int (nI (mBr F n k))])) (div_16 (by omega))) ?_
        refine lv_aload_n hx hb dX1_breaches_21 rfl (lv_at hl 2 rfl) ?_
        refine va_get (D := D) (ci := 1) (v := .int (nI n)) hx hb hts hin hown hK hP 0 rfl rfl 4 (by decide) f46 (fun _ h9 => h9) rfl dX1_breaches_22 ?_
        refine lv_icmp_ge (x := (nI (k / 16))) (y := (nI n)) (tgt := 51) hx hb dX1_breaches_25 (by decide) (fun c_25 => ?_) (fun c_25 => ?_)
        · have c_25 : ¬ k / 16 < n := fun e => absurd (nI_lt e (by have := hw.n; omega)) (Int32.not_lt.mpr c_25)
          refine lv_iconst (v := 0) hx hb dX1_breaches_51 (by decide) ?_
          refine lv_iadd hx hb (x := (nI (mBr F n k))) (y := 0) dX1_breaches_52 ?_
          refine lv_istore_n (lv' := [(1, .int ((nI (mBr F n k)) + 0)), (2, .int (nI k)), (0, .ref (q 9))]) hx hb dX1_breaches_53 rfl hl (by decide) rfl (fun ls hl => ?_)
          refine lv_iinc (v := (nI (k + 1))) (lv' := [(2, .int (nI (k + 1))), (1, .int ((nI (mBr F n k)) + 0)), (0, .ref (q 9))]) hx hb dX1_breaches_54 hl (k := 1) rfl (nI_1 k) (by decide) rfl (fun ls hl => ?_)
          refine lv_goto (tgt := 9) hx hb dX1_breaches_57 (by decide) ?_
          have e1 : ((nI (mBr F n k)) + 0) = nI (mBr F n (k + 1)) := by rw [show mBr F n (k + 1) = mBr F n k from (by simp [mBr, c_25])]; exact Int32.add_zero _
          rw [e1] at hl
          exact ih9 (k + 1) _ _ _ (by omega) (by omega) hP hD hS (lv_sub hl [0, 1, 2] rfl)
        · have c_25 : k / 16 < n := nI_lt_of c_25 (by omega)
          refine lv_aload_n hx hb dX1_breaches_28 rfl (lv_at hl 2 rfl) ?_
          refine lv_iload_n hx hb dX1_breaches_29 rfl (lv_at hl 0 rfl) ?_
          refine lv_bipush (v := 16) hx hb dX1_breaches_30 (by decide) ?_
          refine lv_idiv hx hb (x := (nI k)) (y := 16) dX1_breaches_32 (by decide) ?_
          refine W.eq (g2 := F0 m9 33 ls (.int (nI (k / 16)) :: [.ref (q 9), .int (nI (mBr F n k))])) (congrArg (fun z => F0 m9 33 ls (Value.int z :: [.ref (q 9), .int (nI (mBr F n k))])) (div_16 (by omega))) ?_
          refine ro_V (As := [.int (nI (k / 16))]) (rest := [.int (nI (mBr F n k))]) ⟨hx, hb, hml, hown, hts⟩ (c_X1_foesOf l D q F n R 0 cI cZ (k / 16) hw c_25) (cwV 1 hts gX1_breaches_X1_foesOf rfl rfl rfl (by decide +kernel) ⟨Nat.le_of_ble_eq_true rfl, Nat.le_of_ble_eq_true rfl⟩) hK hP hP (va_recv hK hP (ci := 1) (q0 := 0) rfl rfl) hS rfl hl.1 rfl (Nat.le_of_ble_eq_true rfl) dX1_breaches_33 ⟨Nat.le_of_ble_eq_true rfl, Nat.le_of_ble_eq_true rfl⟩ (fun r H locs hr9 hP hS => ?_)
          subst hr9
          refine lv_iload_n hx hb dX1_breaches_36 rfl (lv_at hl 0 rfl) ?_
          refine lv_bipush (v := 16) hx hb dX1_breaches_37 (by decide) ?_
          refine lv_irem hx hb (x := (nI k)) (y := 16) dX1_breaches_39 (by decide) ?_
          refine W.eq (g2 := F0 m9 40 ls (.int (nI (k % 16)) :: [.int (nI (mFoes F n (k / 16))), .int (nI (mBr F n k))])) (congrArg (fun z => F0 m9 40 ls (Value.int z :: [.int (nI (mFoes F n (k / 16))), .int (nI (mBr F n k))])) (rem_16 (by omega))) ?_
          refine lv_ishr hx hb (x := (nI (mFoes F n (k / 16)))) (y := (nI (k % 16))) dX1_breaches_40 ?_
          refine lv_iconst (v := 1) hx hb dX1_breaches_41 (by decide) ?_
          refine lv_iand hx hb (x := ((nI (mFoes F n (k / 16))) >>> ((nI (k % 16)) &&& 31))) (y := 1) dX1_breaches_42 ?_
          refine lv_iconst (v := 1) hx hb dX1_breaches_43 (by decide) ?_
          refine lv_icmp_ne (x := (((nI (mFoes F n (k / 16))) >>> ((nI (k % 16)) &&& 31)) &&& 1)) (y := 1) (tgt := 51) hx hb dX1_breaches_44 (by decide) (fun c_44 => ?_) (fun c_44 => ?_)
          · have c_44 : ¬ (mFoes F n (k / 16)).testBit (k % 16) = true := fun e => c_44 ((bit_i (bs_16 hw.n) (by omega)).mpr e)
            refine lv_iconst (v := 0) hx hb dX1_breaches_51 (by decide) ?_
            refine lv_iadd hx hb (x := (nI (mBr F n k))) (y := 0) dX1_breaches_52 ?_
            refine lv_istore_n (lv' := [(1, .int ((nI (mBr F n k)) + 0)), (2, .int (nI k)), (0, .ref (q 9))]) hx hb dX1_breaches_53 rfl hl (by decide) rfl (fun ls hl => ?_)
            refine lv_iinc (v := (nI (k + 1))) (lv' := [(2, .int (nI (k + 1))), (1, .int ((nI (mBr F n k)) + 0)), (0, .ref (q 9))]) hx hb dX1_breaches_54 hl (k := 1) rfl (nI_1 k) (by decide) rfl (fun ls hl => ?_)
            refine lv_goto (tgt := 9) hx hb dX1_breaches_57 (by decide) ?_
            have e1 : ((nI (mBr F n k)) + 0) = nI (mBr F n (k + 1)) := by rw [show mBr F n (k + 1) = mBr F n k from (by simp [mBr, c_25, c_44])]; exact Int32.add_zero _
            rw [e1] at hl
            exact ih9 (k + 1) _ _ _ (by omega) (by omega) hP hD hS (lv_sub hl [0, 1, 2] rfl)
          · have c_44 : (mFoes F n (k / 16)).testBit (k % 16) = true := (bit_i (bs_16 hw.n) (by omega)).mp c_44
            refine lv_iconst (v := 1) hx hb dX1_breaches_47 (by decide) ?_
            refine lv_goto (tgt := 52) hx hb dX1_breaches_48 (by decide) ?_
            refine lv_iadd hx hb (x := (nI (mBr F n k))) (y := 1) dX1_breaches_52 ?_
            refine lv_istore_n (lv' := [(1, .int ((nI (mBr F n k)) + 1)), (2, .int (nI k)), (0, .ref (q 9))]) hx hb dX1_breaches_53 rfl hl (by decide) rfl (fun ls hl => ?_)
            refine lv_iinc (v := (nI (k + 1))) (lv' := [(2, .int (nI (k + 1))), (1, .int ((nI (mBr F n k)) + 1)), (0, .ref (q 9))]) hx hb dX1_breaches_54 hl (k := 1) rfl (nI_1 k) (by decide) rfl (fun ls hl => ?_)
            refine lv_goto (tgt := 9) hx hb dX1_breaches_57 (by decide) ?_
            have e1 : ((nI (mBr F n k)) + 1) = nI (mBr F n (k + 1)) := by rw [show mBr F n (k + 1) = mBr F n k + 1 from (by simp [mBr, c_25, c_44])]; exact nI_1 _
            rw [e1] at hl
            exact ih9 (k + 1) _ _ _ (by omega) (by omega) hP hD hS (lv_sub hl [0, 1, 2] rfl)
  exact L9 _ 0 _ _ _ (Nat.lt_succ_self _) (Nat.zero_le _) hP hD hS (lv_sub hl [0, 1, 2] rfl)

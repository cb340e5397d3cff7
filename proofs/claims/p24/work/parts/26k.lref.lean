/-! isRefused -/
theorem lg_eq {x y : Int64} (h : x = y) : lg_cmp x y = 0 := by
  subst h
  unfold lg_cmp
  rw [if_neg (by rw [gt_iff_lt, Int64.lt_iff_toInt_lt]; omega), if_pos rfl]
theorem lo_ten : ∀ k, k < 40 → mIn (0 - nI k) 1 9 = false := by decide +kernel
theorem hi_ten : ∀ k, k < 40 → mIn (nI (10 + k)) 1 9 = false := by decide +kernel
theorem lo_non0 : ∀ n, n < 11 → ∀ k, k < 40 → mIn (-1 - nI k) 0 (nI n - 1) = false := by decide +kernel
theorem hi_non0 : ∀ n, n < 11 → ∀ k, k < 40 → mIn (nI (n + k)) 0 (nI n - 1) = false := by decide +kernel
theorem lo_non {n k : Nat} (h : n ≤ 10) (hk : k < 40) : mIn (-1 - nI k) 0 (nI n - 1) = false := lo_non0 n (by omega) k hk
theorem hi_non {n k : Nat} (h : n ≤ 10) (hk : k < 40) : mIn (nI (n + k)) 0 (nI n - 1) = false := hi_non0 n (by omega) k hk
theorem lo_plc : ∀ k, k < 40 → mIn (-2 - nI k) 0 47 = false ∧ ¬ (-2 - nI k) = -1 := by decide +kernel
theorem hi_plc : ∀ k, k < 40 → mIn (nI (48 + k)) 0 47 = false ∧ ¬ nI (48 + k) = -1 := by decide +kernel
theorem lo_mch : ∀ k, k < 40 → mIn (0 - nI k) 1 10000 = false := by decide +kernel
theorem hi_mch : ∀ k, k < 40 → mIn (nI (10001 + k)) 1 10000 = false := by decide +kernel
theorem subOk_same {c : Int32} (h : ¬ c = -1) : subOk c c = false := by
  unfold subOk
  rw [if_neg h, if_pos rfl]
  split <;> rfl
set_option maxHeartbeats 8000000 in
set_option maxRecDepth 100000 in
theorem c_L_isRefused (l : Launch) (hfl : l.stackTraces = false) (D : va_G) (q : Nat → Nat) (F : Nat → Nat → Int32) (n : Nat) (R : Nat → Int32) (cI cZ : ClassId) (qm : Nat) (C : Nat → Int32) (sz : Nat) (x : Nat) (hw : WF F n) (hm : C 0 = nI n) (hn10 : n ≤ 10) (hx9 : x < 2 ^ 31) : Met l yL_isRefused wsL_isRefused ({ frames := 21, cells := 300, slots := 1800, locals := 866 }) (va_Pc [.ref (q 9), .ref qm, .int (nI x)] (lA D (wC q F (nI n) R cI cZ qm C) (tIZ cI cZ) sz)) (va_Qi (fun (r : Int32) (u : Nat → Int32) => r = 1) (wB D (va_A (wC q F (nI n) R cI cZ qm C) sz) (fun (u : Nat → Int32) => wC q F (nI n) u cI cZ qm C)) (va_A (wC q F (nI n) R cI cZ qm C) sz)) 300 1800 (va_A (wC q F (nI n) R cI cZ qm C) sz) := by
  refine lc_of (Qc := fun A => (va_Qi (fun (r : Int32) (u : Nat → Int32) => r = 1) (wB D A (fun (u : Nat → Int32) => wC q F (nI n) u cI cZ qm C)) A)) (own := RL) (cc := cL_isRefused) (maxL := 12) (ret := (some .boolean)) (by decide) rfl rfl (Nat.le_of_ble_eq_true rfl) ?_
  intro p9 e9 s m9 a9 below meth c9 ls A hx hb hr hml hlocks hown hts htA hn9 hP hK hD hA hl
  have ht : tB s := htA.tB
  have hS : va_S A s.heap s.heap [] := va_S.rf
  have hl : lv_has ls 12 [(0, .ref (q 9)), (1, .ref qm), (2, .int (nI x))] := hl
  have hn16 := hw.n
  refine lv_iload_n hx hb dL_isRefused_0 rfl (lv_at hl 2 rfl) ?_
  refine lv_iconst (v := 2) hx hb dL_isRefused_1 (by decide) ?_
  refine lv_irem hx hb (x := (nI x)) (y := 2) dL_isRefused_2 (by decide) ?_
  refine W.eq (g2 := F0 m9 3 ls (.int (nI (x % 2)) :: [])) (congrArg (fun z => F0 m9 3 ls (Value.int z :: [])) (pk_rem (a := x) (d := 2) (by omega) (by omega) (by omega))) ?_
  refine lv_if_ne (x := (nI (x % 2))) (tgt := 10) hx hb dL_isRefused_3 (by decide) (fun c_3 => ?_) (fun c_3 => ?_)
  · have c_3 := nq_ne (k := (x % 2)) (n := 0) c_3 (by omega) (by omega)
    refine lv_iconst (v := 0) hx hb dL_isRefused_10 (by decide) ?_
    refine lv_istore_n (lv' := [(3, .int 0), (0, .ref (q 9)), (1, .ref qm), (2, .int (nI x))]) hx hb dL_isRefused_11 rfl hl (by decide) rfl (fun ls hl => ?_)
    refine lv_iload_n hx hb dL_isRefused_12 rfl (lv_at hl 0 rfl) ?_
    refine lv_if_eq (x := 0) (tgt := 25) hx hb dL_isRefused_13 (by decide) (fun _ => ?_) (fun k => absurd (by decide) k)
    refine lv_bipush (v := 10) hx hb dL_isRefused_25 (by decide) ?_
    refine lv_iload_n hx hb dL_isRefused_27 rfl (lv_at hl 3 rfl) ?_
    refine lv_bipush (v := 40) hx hb dL_isRefused_28 (by decide) ?_
    refine lv_irem hx hb (x := (nI x)) (y := 40) dL_isRefused_30 (by decide) ?_
    refine W.eq (g2 := F0 m9 31 ls (.int (nI (x % 40)) :: [.int 10])) (congrArg (fun z => F0 m9 31 ls (Value.int z :: [.int 10])) (pk_rem (a := x) (d := 40) (by omega) (by omega) (by omega))) ?_
    refine lv_iadd hx hb (x := 10) (y := (nI (x % 40))) dL_isRefused_31 ?_
    refine W.eq (g2 := F0 m9 32 ls (.int (nI (10 + (x % 40))) :: [])) (congrArg (fun z => F0 m9 32 ls (Value.int z :: [])) (nI_add 10 (x % 40))) ?_
    refine lv_istore (lv' := [(4, .int (nI (10 + (x % 40)))), (3, .int 0), (0, .ref (q 9)), (1, .ref qm), (2, .int (nI x))]) hx hb dL_isRefused_32 hl (by decide) rfl (fun ls hl => ?_)
    refine lv_iload_n hx hb dL_isRefused_34 rfl (lv_at hl 1 rfl) ?_
    refine lv_if_eq (x := 0) (tgt := 47) hx hb dL_isRefused_35 (by decide) (fun _ => ?_) (fun k => absurd (by decide) k)
    refine lv_aload_n hx hb dL_isRefused_47 rfl (lv_at hl 3 rfl) ?_
    refine lv_iconst (v := 0) hx hb dL_isRefused_48 (by decide) ?_
    refine xiald (g := 0) hx hb hK hP 10 0 rfl rfl (by omega) (by decide) dL_isRefused_49 ?_
    refine W.eq (g2 := F0 m9 50 ls (.int (nI n) :: [])) (congrArg (fun z => F0 m9 50 ls (Value.int z :: [])) (hm)) ?_
    refine lv_iload_n hx hb dL_isRefused_50 rfl (lv_at hl 4 rfl) ?_
    refine lv_bipush (v := 40) hx hb dL_isRefused_51 (by decide) ?_
    refine lv_irem hx hb (x := (nI x)) (y := 40) dL_isRefused_53 (by decide) ?_
    refine W.eq (g2 := F0 m9 54 ls (.int (nI (x % 40)) :: [.int (nI n)])) (congrArg (fun z => F0 m9 54 ls (Value.int z :: [.int (nI n)])) (pk_rem (a := x) (d := 40) (by omega) (by omega) (by omega))) ?_
    refine lv_iadd hx hb (x := (nI n)) (y := (nI (x % 40))) dL_isRefused_54 ?_
    refine W.eq (g2 := F0 m9 55 ls (.int (nI (n + (x % 40))) :: [])) (congrArg (fun z => F0 m9 55 ls (Value.int z :: [])) (nI_add n (x % 40))) ?_
    refine lv_istore (lv' := [(5, .int (nI (n + (x % 40)))), (4, .int (nI (10 + (x % 40)))), (3, .int 0), (0, .ref (q 9)), (1, .ref qm), (2, .int (nI x))]) hx hb dL_isRefused_55 hl (by decide) rfl (fun ls hl => ?_)
    refine lv_iload_n hx hb dL_isRefused_57 rfl (lv_at hl 2 rfl) ?_
    refine lv_if_eq (x := 0) (tgt := 71) hx hb dL_isRefused_58 (by decide) (fun _ => ?_) (fun k => absurd (by decide) k)
    refine lv_bipush (v := 48) hx hb dL_isRefused_71 (by decide) ?_
    refine lv_iload_n hx hb dL_isRefused_73 rfl (lv_at hl 5 rfl) ?_
    refine lv_bipush (v := 40) hx hb dL_isRefused_74 (by decide) ?_
    refine lv_irem hx hb (x := (nI x)) (y := 40) dL_isRefused_76 (by decide) ?_
    refine W.eq (g2 := F0 m9 77 ls (.int (nI (x % 40)) :: [.int 48])) (congrArg (fun z => F0 m9 77 ls (Value.int z :: [.int 48])) (pk_rem (a := x) (d := 40) (by omega) (by omega) (by omega))) ?_
    refine lv_iadd hx hb (x := 48) (y := (nI (x % 40))) dL_isRefused_77 ?_
    refine W.eq (g2 := F0 m9 78 ls (.int (nI (48 + (x % 40))) :: [])) (congrArg (fun z => F0 m9 78 ls (Value.int z :: [])) (nI_add 48 (x % 40))) ?_
    refine lv_istore (lv' := [(6, .int (nI (48 + (x % 40)))), (5, .int (nI (n + (x % 40)))), (4, .int (nI (10 + (x % 40)))), (3, .int 0), (0, .ref (q 9)), (1, .ref qm), (2, .int (nI x))]) hx hb dL_isRefused_78 hl (by decide) rfl (fun ls hl => ?_)
    refine lv_iload_n hx hb dL_isRefused_80 rfl (lv_at hl 3 rfl) ?_
    refine lv_if_eq (x := 0) (tgt := 93) hx hb dL_isRefused_81 (by decide) (fun _ => ?_) (fun k => absurd (by decide) k)
    refine lv_sipush (v := 10001) hx hb dL_isRefused_93 (by decide) ?_
    refine lv_iload_n hx hb dL_isRefused_96 rfl (lv_at hl 6 rfl) ?_
    refine lv_bipush (v := 40) hx hb dL_isRefused_97 (by decide) ?_
    refine lv_irem hx hb (x := (nI x)) (y := 40) dL_isRefused_99 (by decide) ?_
    refine W.eq (g2 := F0 m9 100 ls (.int (nI (x % 40)) :: [.int 10001])) (congrArg (fun z => F0 m9 100 ls (Value.int z :: [.int 10001])) (pk_rem (a := x) (d := 40) (by omega) (by omega) (by omega))) ?_
    refine lv_iadd hx hb (x := 10001) (y := (nI (x % 40))) dL_isRefused_100 ?_
    refine W.eq (g2 := F0 m9 101 ls (.int (nI (10001 + (x % 40))) :: [])) (congrArg (fun z => F0 m9 101 ls (Value.int z :: [])) (nI_add 10001 (x % 40))) ?_
    refine lv_istore (lv' := [(7, .int (nI (10001 + (x % 40)))), (6, .int (nI (48 + (x % 40)))), (5, .int (nI (n + (x % 40)))), (4, .int (nI (10 + (x % 40)))), (3, .int 0), (0, .ref (q 9)), (1, .ref qm), (2, .int (nI x))]) hx hb dL_isRefused_101 hl (by decide) rfl (fun ls hl => ?_)
    have hq : mIn (nI (10001 + (x % 40))) 1 10000 = false := hi_mch _ (by omega)
    generalize (nI (10001 + (x % 40))) = mch at hq hl
    have hpp : mIn (nI (48 + (x % 40))) 0 47 = false ∧ ¬ (nI (48 + (x % 40))) = -1 := hi_plc _ (by omega)
    generalize (nI (48 + (x % 40))) = plc at hpp hl
    have hnn : mIn (nI (n + (x % 40))) 0 (nI n - 1) = false := hi_non hn10 (by omega)
    generalize (nI (n + (x % 40))) = non at hnn hl
    have ht : mIn (nI (10 + (x % 40))) 1 9 = false := hi_ten _ (by omega)
    generalize (nI (10 + (x % 40))) = ten at ht hl
    obtain ⟨hp, hpm⟩ := hpp
    refine lv_aload_n hx hb dL_isRefused_103 rfl (lv_at hl 5 rfl) ?_
    refine wr_Sl (As := [.ref (q 9)]) (rest := []) (wr := [(qm, .inl (cI, 1, .inl (C)))]) ⟨hx, hb, hml, hown, hts⟩ (c_L_all l D q F n R cI cZ _ hw) (va_cwS 1 hts gL_isRefused_L_all rfl rfl rfl (by decide +kernel) ⟨Nat.le_of_ble_eq_true rfl, Nat.le_of_ble_eq_true rfl⟩) hK hP hD hA [0, 1, 2, 3, 4, 5, 6, 7, 8, 9] [10] rfl rfl (by decide) rfl (by decide) (by decide) hS rfl hl.1 rfl (Nat.le_of_ble_eq_true rfl) dL_isRefused_104 ⟨Nat.le_of_ble_eq_true rfl, Nat.le_of_ble_eq_true rfl⟩ (fun r9 R_104 H locs h_104 hP hD hS => ?_)
    obtain rfl := h_104
    have hP : va_P D vwCl (wX q F (nI n) R_104 cI cZ ++ [(qm, .inl (cI, 1, .inl (C)))]) H := hP.sub [1, 2, 3, 4, 5, 6, 7, 8, 9, 10, 0] rfl
    have hD : va_D A (wX q F (nI n) R_104 cI cZ ++ [(qm, .inl (cI, 1, .inl (C)))]) := hD.sub [1, 2, 3, 4, 5, 6, 7, 8, 9, 10, 0] (by decide) rfl
    refine lv_lstore (lv' := [(8, .long (bH F n (n * n))), (7, .int mch), (6, .int plc), (5, .int non), (4, .int ten), (3, .int 0), (0, .ref (q 9)), (1, .ref qm), (2, .int (nI x))]) hx hb dL_isRefused_107 hl (by decide) rfl (fun ls hl => ?_)
    refine lv_aload_n hx hb dL_isRefused_109 rfl (lv_at hl 6 rfl) ?_
    refine lv_iconst (v := 0) hx hb dL_isRefused_110 (by decide) ?_
    refine lv_iload hx hb dL_isRefused_111 (lv_at hl 4 rfl) ?_
    refine lv_iconst (v := 1) hx hb dL_isRefused_113 (by decide) ?_
    refine lv_iconst (v := 1) hx hb dL_isRefused_114 (by decide) ?_
    refine la_SW (As := [.ref (q 9), .int 0, .int ten, .int 1, .int 1]) (rest := []) (wr := [(qm, .inl (cI, 1, .inl (C)))]) ⟨hx, hb, hml, hown, hts⟩ (c_L_rule_sd l hfl D q F n R_104 cI cZ _ ten 1 1 hw) (vx_cwSW 5 hts gL_isRefused_L_rule rfl rfl rfl (by decide +kernel) ⟨Nat.le_of_ble_eq_true rfl, Nat.le_of_ble_eq_true rfl⟩) hn9 htA hK hP hD hA [0, 1, 2, 3, 4, 5, 6, 7, 8, 9] [10] rfl rfl (by decide) rfl (by decide) (by decide) hS rfl hl.1 rfl (Nat.le_of_ble_eq_true rfl) dL_isRefused_115 ⟨Nat.le_of_ble_eq_true rfl, Nat.le_of_ble_eq_true rfl⟩ (fun r9 u9 H locs h_115 hP hD hS => ?_)
    obtain ⟨h9a, h9b⟩ := h_115.2 (thSD_1 (Or.inl ht))
    subst h9a
    obtain rfl : F = u9 := h9b.symm
    have hP : va_P D vwCl (wX q F (nI n) R_104 cI cZ ++ [(qm, .inl (cI, 1, .inl (C)))]) H := hP.sub [1, 2, 3, 4, 5, 6, 7, 8, 9, 10, 0] rfl
    have hD : va_D A (wX q F (nI n) R_104 cI cZ ++ [(qm, .inl (cI, 1, .inl (C)))]) := hD.sub [1, 2, 3, 4, 5, 6, 7, 8, 9, 10, 0] (by decide) rfl
    refine lv_sipush (v := (-702)) hx hb dL_isRefused_118 (by decide) ?_
    refine lv_icmp_ne (x := (-702)) (y := (-702)) (tgt := 404) hx hb dL_isRefused_121 (by decide) (fun k => absurd (by decide) k) (fun _ => ?_)
    refine lv_aload_n hx hb dL_isRefused_124 rfl (lv_at hl 6 rfl) ?_
    refine lv_iconst (v := 0) hx hb dL_isRefused_125 (by decide) ?_
    refine lv_iconst (v := 1) hx hb dL_isRefused_126 (by decide) ?_
    refine lv_iload hx hb dL_isRefused_127 (lv_at hl 4 rfl) ?_
    refine lv_iconst (v := 1) hx hb dL_isRefused_129 (by decide) ?_
    refine la_SW (As := [.ref (q 9), .int 0, .int 1, .int ten, .int 1]) (rest := []) (wr := [(qm, .inl (cI, 1, .inl (C)))]) ⟨hx, hb, hml, hown, hts⟩ (c_L_rule_sd l hfl D q F n R_104 cI cZ _ 1 ten 1 hw) (vx_cwSW 5 hts gL_isRefused_L_rule rfl rfl rfl (by decide +kernel) ⟨Nat.le_of_ble_eq_true rfl, Nat.le_of_ble_eq_true rfl⟩) hn9 htA hK hP hD hA [0, 1, 2, 3, 4, 5, 6, 7, 8, 9] [10] rfl rfl (by decide) rfl (by decide) (by decide) hS rfl hl.1 rfl (Nat.le_of_ble_eq_true rfl) dL_isRefused_130 ⟨Nat.le_of_ble_eq_true rfl, Nat.le_of_ble_eq_true rfl⟩ (fun r9 u9 H locs h_130 hP hD hS => ?_)
    obtain ⟨h9a, h9b⟩ := h_130.2 (thSD_1 (Or.inr (Or.inl ht)))
    subst h9a
    obtain rfl : F = u9 := h9b.symm
    have hP : va_P D vwCl (wX q F (nI n) R_104 cI cZ ++ [(qm, .inl (cI, 1, .inl (C)))]) H := hP.sub [1, 2, 3, 4, 5, 6, 7, 8, 9, 10, 0] rfl
    have hD : va_D A (wX q F (nI n) R_104 cI cZ ++ [(qm, .inl (cI, 1, .inl (C)))]) := hD.sub [1, 2, 3, 4, 5, 6, 7, 8, 9, 10, 0] (by decide) rfl
    refine lv_sipush (v := (-702)) hx hb dL_isRefused_133 (by decide) ?_
    refine lv_icmp_ne (x := (-702)) (y := (-702)) (tgt := 404) hx hb dL_isRefused_136 (by decide) (fun k => absurd (by decide) k) (fun _ => ?_)
    refine lv_aload_n hx hb dL_isRefused_139 rfl (lv_at hl 6 rfl) ?_
    refine lv_iconst (v := 0) hx hb dL_isRefused_140 (by decide) ?_
    refine lv_iconst (v := 1) hx hb dL_isRefused_141 (by decide) ?_
    refine lv_iconst (v := 2) hx hb dL_isRefused_142 (by decide) ?_
    refine lv_iload_n hx hb dL_isRefused_143 rfl (lv_at hl 5 rfl) ?_
    refine lv_if_eq (x := 0) (tgt := 151) hx hb dL_isRefused_144 (by decide) (fun _ => ?_) (fun k => absurd (by decide) k)
    refine lv_iconst (v := 5) hx hb dL_isRefused_151 (by decide) ?_
    refine la_SW (As := [.ref (q 9), .int 0, .int 1, .int 2, .int 5]) (rest := []) (wr := [(qm, .inl (cI, 1, .inl (C)))]) ⟨hx, hb, hml, hown, hts⟩ (c_L_rule_sd l hfl D q F n R_104 cI cZ _ 1 2 5 hw) (vx_cwSW 5 hts gL_isRefused_L_rule rfl rfl rfl (by decide +kernel) ⟨Nat.le_of_ble_eq_true rfl, Nat.le_of_ble_eq_true rfl⟩) hn9 htA hK hP hD hA [0, 1, 2, 3, 4, 5, 6, 7, 8, 9] [10] rfl rfl (by decide) rfl (by decide) (by decide) hS rfl hl.1 rfl (Nat.le_of_ble_eq_true rfl) dL_isRefused_152 ⟨Nat.le_of_ble_eq_true rfl, Nat.le_of_ble_eq_true rfl⟩ (fun r9 u9 H locs h_152 hP hD hS => ?_)
    obtain ⟨h9a, h9b⟩ := h_152.2 (thSD_1 (Or.inr (Or.inr (by decide))))
    subst h9a
    obtain rfl : F = u9 := h9b.symm
    have hP : va_P D vwCl (wX q F (nI n) R_104 cI cZ ++ [(qm, .inl (cI, 1, .inl (C)))]) H := hP.sub [1, 2, 3, 4, 5, 6, 7, 8, 9, 10, 0] rfl
    have hD : va_D A (wX q F (nI n) R_104 cI cZ ++ [(qm, .inl (cI, 1, .inl (C)))]) := hD.sub [1, 2, 3, 4, 5, 6, 7, 8, 9, 10, 0] (by decide) rfl
    refine lv_sipush (v := (-702)) hx hb dL_isRefused_155 (by decide) ?_
    refine lv_icmp_ne (x := (-702)) (y := (-702)) (tgt := 404) hx hb dL_isRefused_158 (by decide) (fun k => absurd (by decide) k) (fun _ => ?_)
    refine lv_aload_n hx hb dL_isRefused_161 rfl (lv_at hl 6 rfl) ?_
    refine lv_iconst (v := 1) hx hb dL_isRefused_162 (by decide) ?_
    refine lv_iload hx hb dL_isRefused_163 (lv_at hl 4 rfl) ?_
    refine lv_iconst (v := 0) hx hb dL_isRefused_165 (by decide) ?_
    refine lv_iconst (v := 1) hx hb dL_isRefused_166 (by decide) ?_
    refine la_SW (As := [.ref (q 9), .int 1, .int ten, .int 0, .int 1]) (rest := []) (wr := [(qm, .inl (cI, 1, .inl (C)))]) ⟨hx, hb, hml, hown, hts⟩ (c_L_rule_bar1 l hfl D q F n R_104 cI cZ _ ten 0 hw) (vx_cwSW 5 hts gL_isRefused_L_rule rfl rfl rfl (by decide +kernel) ⟨Nat.le_of_ble_eq_true rfl, Nat.le_of_ble_eq_true rfl⟩) hn9 htA hK hP hD hA [0, 1, 2, 3, 4, 5, 6, 7, 8, 9] [10] rfl rfl (by decide) rfl (by decide) (by decide) hS rfl hl.1 rfl (Nat.le_of_ble_eq_true rfl) dL_isRefused_167 ⟨Nat.le_of_ble_eq_true rfl, Nat.le_of_ble_eq_true rfl⟩ (fun r9 u9 H locs h_167 hP hD hS => ?_)
    obtain ⟨h9a, h9b⟩ := h_167.2 (thBar_1 (Or.inl ht))
    subst h9a
    obtain rfl : F = u9 := h9b.symm
    have hP : va_P D vwCl (wX q F (nI n) R_104 cI cZ ++ [(qm, .inl (cI, 1, .inl (C)))]) H := hP.sub [1, 2, 3, 4, 5, 6, 7, 8, 9, 10, 0] rfl
    have hD : va_D A (wX q F (nI n) R_104 cI cZ ++ [(qm, .inl (cI, 1, .inl (C)))]) := hD.sub [1, 2, 3, 4, 5, 6, 7, 8, 9, 10, 0] (by decide) rfl
    refine lv_sipush (v := (-702)) hx hb dL_isRefused_170 (by decide) ?_
    refine lv_icmp_ne (x := (-702)) (y := (-702)) (tgt := 404) hx hb dL_isRefused_173 (by decide) (fun k => absurd (by decide) k) (fun _ => ?_)
    refine lv_aload_n hx hb dL_isRefused_176 rfl (lv_at hl 6 rfl) ?_
    refine lv_iconst (v := 1) hx hb dL_isRefused_177 (by decide) ?_
    refine lv_iconst (v := 1) hx hb dL_isRefused_178 (by decide) ?_
    refine lv_iload_n hx hb dL_isRefused_179 rfl (lv_at hl 5 rfl) ?_
    refine lv_if_eq (x := 0) (tgt := 187) hx hb dL_isRefused_180 (by decide) (fun _ => ?_) (fun k => absurd (by decide) k)
    refine lv_iconst (v := 2) hx hb dL_isRefused_187 (by decide) ?_
    refine lv_iconst (v := 1) hx hb dL_isRefused_188 (by decide) ?_
    refine la_SW (As := [.ref (q 9), .int 1, .int 1, .int 2, .int 1]) (rest := []) (wr := [(qm, .inl (cI, 1, .inl (C)))]) ⟨hx, hb, hml, hown, hts⟩ (c_L_rule_bar1 l hfl D q F n R_104 cI cZ _ 1 2 hw) (vx_cwSW 5 hts gL_isRefused_L_rule rfl rfl rfl (by decide +kernel) ⟨Nat.le_of_ble_eq_true rfl, Nat.le_of_ble_eq_true rfl⟩) hn9 htA hK hP hD hA [0, 1, 2, 3, 4, 5, 6, 7, 8, 9] [10] rfl rfl (by decide) rfl (by decide) (by decide) hS rfl hl.1 rfl (Nat.le_of_ble_eq_true rfl) dL_isRefused_189 ⟨Nat.le_of_ble_eq_true rfl, Nat.le_of_ble_eq_true rfl⟩ (fun r9 u9 H locs h_189 hP hD hS => ?_)
    obtain ⟨h9a, h9b⟩ := h_189.2 (thBar_1 (Or.inr (by decide)))
    subst h9a
    obtain rfl : F = u9 := h9b.symm
    have hP : va_P D vwCl (wX q F (nI n) R_104 cI cZ ++ [(qm, .inl (cI, 1, .inl (C)))]) H := hP.sub [1, 2, 3, 4, 5, 6, 7, 8, 9, 10, 0] rfl
    have hD : va_D A (wX q F (nI n) R_104 cI cZ ++ [(qm, .inl (cI, 1, .inl (C)))]) := hD.sub [1, 2, 3, 4, 5, 6, 7, 8, 9, 10, 0] (by decide) rfl
    refine lv_sipush (v := (-702)) hx hb dL_isRefused_192 (by decide) ?_
    refine lv_icmp_ne (x := (-702)) (y := (-702)) (tgt := 404) hx hb dL_isRefused_195 (by decide) (fun k => absurd (by decide) k) (fun _ => ?_)
    refine lv_aload_n hx hb dL_isRefused_198 rfl (lv_at hl 6 rfl) ?_
    refine lv_iconst (v := 2) hx hb dL_isRefused_199 (by decide) ?_
    refine lv_iload hx hb dL_isRefused_200 (lv_at hl 2 rfl) ?_
    refine lv_iconst (v := 0) hx hb dL_isRefused_202 (by decide) ?_
    refine lv_iconst (v := 0) hx hb dL_isRefused_203 (by decide) ?_
    refine la_SW (As := [.ref (q 9), .int 2, .int plc, .int 0, .int 0]) (rest := []) (wr := [(qm, .inl (cI, 1, .inl (C)))]) ⟨hx, hb, hml, hown, hts⟩ (c_L_rule_d l hfl D q F n R_104 cI cZ _ plc 0 hw) (vx_cwSW 5 hts gL_isRefused_L_rule rfl rfl rfl (by decide +kernel) ⟨Nat.le_of_ble_eq_true rfl, Nat.le_of_ble_eq_true rfl⟩) hn9 htA hK hP hD hA [0, 1, 2, 3, 4, 5, 6, 7, 8, 9] [10] rfl rfl (by decide) rfl (by decide) (by decide) hS rfl hl.1 rfl (Nat.le_of_ble_eq_true rfl) dL_isRefused_204 ⟨Nat.le_of_ble_eq_true rfl, Nat.le_of_ble_eq_true rfl⟩ (fun r9 u9 H locs h_204 hP hD hS => ?_)
    obtain rfl := h_204.2 (thD_1 (Or.inl hp))
    have hP : va_P D vwCl (wX q F (nI n) R_104 cI cZ ++ [(qm, .inl (cI, 1, .inl (C)))]) H := hP.sub [1, 2, 3, 4, 5, 6, 7, 8, 9, 10, 0] rfl
    have hD : va_D A (wX q F (nI n) R_104 cI cZ ++ [(qm, .inl (cI, 1, .inl (C)))]) := hD.sub [1, 2, 3, 4, 5, 6, 7, 8, 9, 10, 0] (by decide) rfl
    refine lv_sipush (v := (-702)) hx hb dL_isRefused_207 (by decide) ?_
    refine lv_icmp_ne (x := (-702)) (y := (-702)) (tgt := 404) hx hb dL_isRefused_210 (by decide) (fun k => absurd (by decide) k) (fun _ => ?_)
    refine lv_aload_n hx hb dL_isRefused_213 rfl (lv_at hl 6 rfl) ?_
    refine lv_iconst (v := 2) hx hb dL_isRefused_214 (by decide) ?_
    refine lv_iconst (v := 0) hx hb dL_isRefused_215 (by decide) ?_
    refine lv_iload hx hb dL_isRefused_216 (lv_at hl 2 rfl) ?_
    refine lv_iconst (v := 0) hx hb dL_isRefused_218 (by decide) ?_
    refine la_SW (As := [.ref (q 9), .int 2, .int 0, .int plc, .int 0]) (rest := []) (wr := [(qm, .inl (cI, 1, .inl (C)))]) ⟨hx, hb, hml, hown, hts⟩ (c_L_rule_d l hfl D q F n R_104 cI cZ _ 0 plc hw) (vx_cwSW 5 hts gL_isRefused_L_rule rfl rfl rfl (by decide +kernel) ⟨Nat.le_of_ble_eq_true rfl, Nat.le_of_ble_eq_true rfl⟩) hn9 htA hK hP hD hA [0, 1, 2, 3, 4, 5, 6, 7, 8, 9] [10] rfl rfl (by decide) rfl (by decide) (by decide) hS rfl hl.1 rfl (Nat.le_of_ble_eq_true rfl) dL_isRefused_219 ⟨Nat.le_of_ble_eq_true rfl, Nat.le_of_ble_eq_true rfl⟩ (fun r9 u9 H locs h_219 hP hD hS => ?_)
    obtain rfl := h_219.2 (thD_1 (Or.inr hp))
    have hP : va_P D vwCl (wX q F (nI n) R_104 cI cZ ++ [(qm, .inl (cI, 1, .inl (C)))]) H := hP.sub [1, 2, 3, 4, 5, 6, 7, 8, 9, 10, 0] rfl
    have hD : va_D A (wX q F (nI n) R_104 cI cZ ++ [(qm, .inl (cI, 1, .inl (C)))]) := hD.sub [1, 2, 3, 4, 5, 6, 7, 8, 9, 10, 0] (by decide) rfl
    refine lv_sipush (v := (-702)) hx hb dL_isRefused_222 (by decide) ?_
    refine lv_icmp_ne (x := (-702)) (y := (-702)) (tgt := 404) hx hb dL_isRefused_225 (by decide) (fun k => absurd (by decide) k) (fun _ => ?_)
    refine lv_aload_n hx hb dL_isRefused_228 rfl (lv_at hl 6 rfl) ?_
    refine lv_iconst (v := 2) hx hb dL_isRefused_229 (by decide) ?_
    refine lv_iconst (v := (-1)) hx hb dL_isRefused_230 (by decide) ?_
    refine lv_iconst (v := 5) hx hb dL_isRefused_231 (by decide) ?_
    refine lv_iconst (v := 0) hx hb dL_isRefused_232 (by decide) ?_
    refine la_SW (As := [.ref (q 9), .int 2, .int (-1), .int 5, .int 0]) (rest := []) (wr := [(qm, .inl (cI, 1, .inl (C)))]) ⟨hx, hb, hml, hown, hts⟩ (c_L_rule_d l hfl D q F n R_104 cI cZ _ (-1) 5 hw) (vx_cwSW 5 hts gL_isRefused_L_rule rfl rfl rfl (by decide +kernel) ⟨Nat.le_of_ble_eq_true rfl, Nat.le_of_ble_eq_true rfl⟩) hn9 htA hK hP hD hA [0, 1, 2, 3, 4, 5, 6, 7, 8, 9] [10] rfl rfl (by decide) rfl (by decide) (by decide) hS rfl hl.1 rfl (Nat.le_of_ble_eq_true rfl) dL_isRefused_233 ⟨Nat.le_of_ble_eq_true rfl, Nat.le_of_ble_eq_true rfl⟩ (fun r9 u9 H locs h_233 hP hD hS => ?_)
    obtain rfl := h_233.2 (thD_1 (Or.inl (by decide)))
    have hP : va_P D vwCl (wX q F (nI n) R_104 cI cZ ++ [(qm, .inl (cI, 1, .inl (C)))]) H := hP.sub [1, 2, 3, 4, 5, 6, 7, 8, 9, 10, 0] rfl
    have hD : va_D A (wX q F (nI n) R_104 cI cZ ++ [(qm, .inl (cI, 1, .inl (C)))]) := hD.sub [1, 2, 3, 4, 5, 6, 7, 8, 9, 10, 0] (by decide) rfl
    refine lv_sipush (v := (-702)) hx hb dL_isRefused_236 (by decide) ?_
    refine lv_icmp_ne (x := (-702)) (y := (-702)) (tgt := 404) hx hb dL_isRefused_239 (by decide) (fun k => absurd (by decide) k) (fun _ => ?_)
    refine lv_aload_n hx hb dL_isRefused_242 rfl (lv_at hl 6 rfl) ?_
    refine lv_iconst (v := 3) hx hb dL_isRefused_243 (by decide) ?_
    refine lv_iload hx hb dL_isRefused_244 (lv_at hl 4 rfl) ?_
    refine lv_iconst (v := (-1)) hx hb dL_isRefused_246 (by decide) ?_
    refine lv_iconst (v := 5) hx hb dL_isRefused_247 (by decide) ?_
    refine la_SW (As := [.ref (q 9), .int 3, .int ten, .int (-1), .int 5]) (rest := []) (wr := [(qm, .inl (cI, 1, .inl (C)))]) ⟨hx, hb, hml, hown, hts⟩ (c_L_rule_add l hfl D q F n R_104 cI cZ _ ten (-1) 5 hw) (vx_cwSW 5 hts gL_isRefused_L_rule rfl rfl rfl (by decide +kernel) ⟨Nat.le_of_ble_eq_true rfl, Nat.le_of_ble_eq_true rfl⟩) hn9 htA hK hP hD hA [0, 1, 2, 3, 4, 5, 6, 7, 8, 9] [10] rfl rfl (by decide) rfl (by decide) (by decide) hS rfl hl.1 rfl (Nat.le_of_ble_eq_true rfl) dL_isRefused_248 ⟨Nat.le_of_ble_eq_true rfl, Nat.le_of_ble_eq_true rfl⟩ (fun r9 u9 H locs h_248 hP hD hS => ?_)
    obtain ⟨F8, n8⟩ := u9
    obtain ⟨h9a, h9b, h9c⟩ := h_248.2.1 (thAdd_1 (Or.inl ht))
    subst h9a
    obtain rfl : F = F8 := h9b.symm
    obtain rfl : n = n8 := h9c.symm
    have hP : va_P D vwCl (wX q F (nI n) R_104 cI cZ ++ [(qm, .inl (cI, 1, .inl (C)))]) H := hP.sub [1, 2, 3, 4, 5, 6, 7, 8, 9, 10, 0] rfl
    have hD : va_D A (wX q F (nI n) R_104 cI cZ ++ [(qm, .inl (cI, 1, .inl (C)))]) := hD.sub [1, 2, 3, 4, 5, 6, 7, 8, 9, 10, 0] (by decide) rfl
    refine lv_sipush (v := (-702)) hx hb dL_isRefused_251 (by decide) ?_
    refine lv_icmp_ne (x := (-702)) (y := (-702)) (tgt := 404) hx hb dL_isRefused_254 (by decide) (fun k => absurd (by decide) k) (fun _ => ?_)
    refine lv_aload_n hx hb dL_isRefused_257 rfl (lv_at hl 6 rfl) ?_
    refine lv_iconst (v := 3) hx hb dL_isRefused_258 (by decide) ?_
    refine lv_iconst (v := 1) hx hb dL_isRefused_259 (by decide) ?_
    refine lv_iload_n hx hb dL_isRefused_260 rfl (lv_at hl 5 rfl) ?_
    refine lv_if_eq (x := 0) (tgt := 268) hx hb dL_isRefused_261 (by decide) (fun _ => ?_) (fun k => absurd (by decide) k)
    refine lv_bipush (v := 10) hx hb dL_isRefused_268 (by decide) ?_
    refine lv_iconst (v := 5) hx hb dL_isRefused_270 (by decide) ?_
    refine la_SW (As := [.ref (q 9), .int 3, .int 1, .int 10, .int 5]) (rest := []) (wr := [(qm, .inl (cI, 1, .inl (C)))]) ⟨hx, hb, hml, hown, hts⟩ (c_L_rule_add l hfl D q F n R_104 cI cZ _ 1 10 5 hw) (vx_cwSW 5 hts gL_isRefused_L_rule rfl rfl rfl (by decide +kernel) ⟨Nat.le_of_ble_eq_true rfl, Nat.le_of_ble_eq_true rfl⟩) hn9 htA hK hP hD hA [0, 1, 2, 3, 4, 5, 6, 7, 8, 9] [10] rfl rfl (by decide) rfl (by decide) (by decide) hS rfl hl.1 rfl (Nat.le_of_ble_eq_true rfl) dL_isRefused_271 ⟨Nat.le_of_ble_eq_true rfl, Nat.le_of_ble_eq_true rfl⟩ (fun r9 u9 H locs h_271 hP hD hS => ?_)
    obtain ⟨F8, n8⟩ := u9
    obtain ⟨h9a, h9b, h9c⟩ := h_271.2.1 (thAdd_1 (Or.inr (Or.inl (by decide))))
    subst h9a
    obtain rfl : F = F8 := h9b.symm
    obtain rfl : n = n8 := h9c.symm
    have hP : va_P D vwCl (wX q F (nI n) R_104 cI cZ ++ [(qm, .inl (cI, 1, .inl (C)))]) H := hP.sub [1, 2, 3, 4, 5, 6, 7, 8, 9, 10, 0] rfl
    have hD : va_D A (wX q F (nI n) R_104 cI cZ ++ [(qm, .inl (cI, 1, .inl (C)))]) := hD.sub [1, 2, 3, 4, 5, 6, 7, 8, 9, 10, 0] (by decide) rfl
    refine lv_sipush (v := (-702)) hx hb dL_isRefused_274 (by decide) ?_
    refine lv_icmp_ne (x := (-702)) (y := (-702)) (tgt := 404) hx hb dL_isRefused_277 (by decide) (fun k => absurd (by decide) k) (fun _ => ?_)
    refine lv_aload_n hx hb dL_isRefused_280 rfl (lv_at hl 6 rfl) ?_
    refine lv_iconst (v := 3) hx hb dL_isRefused_281 (by decide) ?_
    refine lv_iconst (v := 1) hx hb dL_isRefused_282 (by decide) ?_
    refine lv_iload_n hx hb dL_isRefused_283 rfl (lv_at hl 8 rfl) ?_
    refine lv_bipush (v := 9) hx hb dL_isRefused_284 (by decide) ?_
    refine lv_irem hx hb (x := (nI x)) (y := 9) dL_isRefused_286 (by decide) ?_
    refine W.eq (g2 := F0 m9 287 ls (.int (nI (x % 9)) :: [.int 1, .int 3, .ref (q 9)])) (congrArg (fun z => F0 m9 287 ls (Value.int z :: [.int 1, .int 3, .ref (q 9)])) (pk_rem (a := x) (d := 9) (by omega) (by omega) (by omega))) ?_
    refine lv_iadd hx hb (x := 1) (y := (nI (x % 9))) dL_isRefused_287 ?_
    refine W.eq (g2 := F0 m9 288 ls (.int (nI (1 + (x % 9))) :: [.int 3, .ref (q 9)])) (congrArg (fun z => F0 m9 288 ls (Value.int z :: [.int 3, .ref (q 9)])) (nI_add 1 (x % 9))) ?_
    refine lv_iconst (v := 1) hx hb dL_isRefused_288 (by decide) ?_
    refine lv_iload_n hx hb dL_isRefused_289 rfl (lv_at hl 8 rfl) ?_
    refine lv_bipush (v := 9) hx hb dL_isRefused_290 (by decide) ?_
    refine lv_irem hx hb (x := (nI x)) (y := 9) dL_isRefused_292 (by decide) ?_
    refine W.eq (g2 := F0 m9 293 ls (.int (nI (x % 9)) :: [.int 1, .int (nI (1 + (x % 9))), .int 3, .ref (q 9)])) (congrArg (fun z => F0 m9 293 ls (Value.int z :: [.int 1, .int (nI (1 + (x % 9))), .int 3, .ref (q 9)])) (pk_rem (a := x) (d := 9) (by omega) (by omega) (by omega))) ?_
    refine lv_iadd hx hb (x := 1) (y := (nI (x % 9))) dL_isRefused_293 ?_
    refine W.eq (g2 := F0 m9 294 ls (.int (nI (1 + (x % 9))) :: [.int (nI (1 + (x % 9))), .int 3, .ref (q 9)])) (congrArg (fun z => F0 m9 294 ls (Value.int z :: [.int (nI (1 + (x % 9))), .int 3, .ref (q 9)])) (nI_add 1 (x % 9))) ?_
    refine lv_iconst (v := 5) hx hb dL_isRefused_294 (by decide) ?_
    refine la_SW (As := [.ref (q 9), .int 3, .int (nI (1 + (x % 9))), .int (nI (1 + (x % 9))), .int 5]) (rest := []) (wr := [(qm, .inl (cI, 1, .inl (C)))]) ⟨hx, hb, hml, hown, hts⟩ (c_L_rule_add l hfl D q F n R_104 cI cZ _ (nI (1 + (x % 9))) (nI (1 + (x % 9))) 5 hw) (vx_cwSW 5 hts gL_isRefused_L_rule rfl rfl rfl (by decide +kernel) ⟨Nat.le_of_ble_eq_true rfl, Nat.le_of_ble_eq_true rfl⟩) hn9 htA hK hP hD hA [0, 1, 2, 3, 4, 5, 6, 7, 8, 9] [10] rfl rfl (by decide) rfl (by decide) (by decide) hS rfl hl.1 rfl (Nat.le_of_ble_eq_true rfl) dL_isRefused_295 ⟨Nat.le_of_ble_eq_true rfl, Nat.le_of_ble_eq_true rfl⟩ (fun r9 u9 H locs h_295 hP hD hS => ?_)
    obtain ⟨F8, n8⟩ := u9
    obtain ⟨h9a, h9b, h9c⟩ := h_295.2.1 (thAdd_1 (Or.inr (Or.inl (subOk_same (nI_ne_m1 (by omega))))))
    subst h9a
    obtain rfl : F = F8 := h9b.symm
    obtain rfl : n = n8 := h9c.symm
    have hP : va_P D vwCl (wX q F (nI n) R_104 cI cZ ++ [(qm, .inl (cI, 1, .inl (C)))]) H := hP.sub [1, 2, 3, 4, 5, 6, 7, 8, 9, 10, 0] rfl
    have hD : va_D A (wX q F (nI n) R_104 cI cZ ++ [(qm, .inl (cI, 1, .inl (C)))]) := hD.sub [1, 2, 3, 4, 5, 6, 7, 8, 9, 10, 0] (by decide) rfl
    refine lv_sipush (v := (-702)) hx hb dL_isRefused_298 (by decide) ?_
    refine lv_icmp_ne (x := (-702)) (y := (-702)) (tgt := 404) hx hb dL_isRefused_301 (by decide) (fun k => absurd (by decide) k) (fun _ => ?_)
    refine lv_aload_n hx hb dL_isRefused_304 rfl (lv_at hl 6 rfl) ?_
    refine lv_iconst (v := 3) hx hb dL_isRefused_305 (by decide) ?_
    refine lv_iconst (v := 1) hx hb dL_isRefused_306 (by decide) ?_
    refine lv_iconst (v := (-1)) hx hb dL_isRefused_307 (by decide) ?_
    refine lv_iload hx hb dL_isRefused_308 (lv_at hl 1 rfl) ?_
    refine la_SW (As := [.ref (q 9), .int 3, .int 1, .int (-1), .int mch]) (rest := []) (wr := [(qm, .inl (cI, 1, .inl (C)))]) ⟨hx, hb, hml, hown, hts⟩ (c_L_rule_add l hfl D q F n R_104 cI cZ _ 1 (-1) mch hw) (vx_cwSW 5 hts gL_isRefused_L_rule rfl rfl rfl (by decide +kernel) ⟨Nat.le_of_ble_eq_true rfl, Nat.le_of_ble_eq_true rfl⟩) hn9 htA hK hP hD hA [0, 1, 2, 3, 4, 5, 6, 7, 8, 9] [10] rfl rfl (by decide) rfl (by decide) (by decide) hS rfl hl.1 rfl (Nat.le_of_ble_eq_true rfl) dL_isRefused_310 ⟨Nat.le_of_ble_eq_true rfl, Nat.le_of_ble_eq_true rfl⟩ (fun r9 u9 H locs h_310 hP hD hS => ?_)
    obtain ⟨F8, n8⟩ := u9
    obtain ⟨h9a, h9b, h9c⟩ := h_310.2.1 (thAdd_1 (Or.inr (Or.inr hq)))
    subst h9a
    obtain rfl : F = F8 := h9b.symm
    obtain rfl : n = n8 := h9c.symm
    have hP : va_P D vwCl (wX q F (nI n) R_104 cI cZ ++ [(qm, .inl (cI, 1, .inl (C)))]) H := hP.sub [1, 2, 3, 4, 5, 6, 7, 8, 9, 10, 0] rfl
    have hD : va_D A (wX q F (nI n) R_104 cI cZ ++ [(qm, .inl (cI, 1, .inl (C)))]) := hD.sub [1, 2, 3, 4, 5, 6, 7, 8, 9, 10, 0] (by decide) rfl
    refine lv_sipush (v := (-702)) hx hb dL_isRefused_313 (by decide) ?_
    refine lv_icmp_ne (x := (-702)) (y := (-702)) (tgt := 404) hx hb dL_isRefused_316 (by decide) (fun k => absurd (by decide) k) (fun _ => ?_)
    refine lv_aload_n hx hb dL_isRefused_319 rfl (lv_at hl 7 rfl) ?_
    refine lv_iconst (v := 0) hx hb dL_isRefused_320 (by decide) ?_
    refine xiald (g := 0) hx hb hK hP 10 0 rfl rfl (by omega) (by decide) dL_isRefused_321 ?_
    refine W.eq (g2 := F0 m9 322 ls (.int (nI n) :: [])) (congrArg (fun z => F0 m9 322 ls (Value.int z :: [])) (hm)) ?_
    refine lv_bipush (v := 16) hx hb dL_isRefused_322 (by decide) ?_
    refine lv_icmp_lt (x := (nI n)) (y := 16) (tgt := 341) hx hb dL_isRefused_324 (by decide) (fun c_324 => ?_) (fun k => (k (show nI n < nI 16 from nI_lt (by omega) (by decide)) : False).elim)
    refine lv_aload_n hx hb dL_isRefused_341 rfl (lv_at hl 6 rfl) ?_
    refine lv_iload hx hb dL_isRefused_342 (lv_at hl 4 rfl) ?_
    refine lv_iconst (v := 5) hx hb dL_isRefused_344 (by decide) ?_
    refine lv_iconst (v := 5) hx hb dL_isRefused_345 (by decide) ?_
    refine la_SW (As := [.ref (q 9), .int ten, .int 5, .int 5]) (rest := []) (wr := [(qm, .inl (cI, 1, .inl (C)))]) ⟨hx, hb, hml, hown, hts⟩ (c_L_setQuantities l hfl D q F n R_104 cI cZ _ ten 5 5 hw) (vx_cwSW 4 hts gL_isRefused_L_setQuantities rfl rfl rfl (by decide +kernel) ⟨Nat.le_of_ble_eq_true rfl, Nat.le_of_ble_eq_true rfl⟩) hn9 htA hK hP hD hA [0, 1, 2, 3, 4, 5, 6, 7, 8, 9] [10] rfl rfl (by decide) rfl (by decide) (by decide) hS rfl hl.1 rfl (Nat.le_of_ble_eq_true rfl) dL_isRefused_346 ⟨Nat.le_of_ble_eq_true rfl, Nat.le_of_ble_eq_true rfl⟩ (fun r9 u9 H locs h_346 hP hD hS => ?_)
    obtain ⟨h9a, h9b⟩ := h_346.2 (thSQ_1 (Or.inl ht))
    subst h9a
    obtain rfl : F = u9 := h9b.symm
    have hP : va_P D vwCl (wX q F (nI n) R_104 cI cZ ++ [(qm, .inl (cI, 1, .inl (C)))]) H := hP.sub [1, 2, 3, 4, 5, 6, 7, 8, 9, 10, 0] rfl
    have hD : va_D A (wX q F (nI n) R_104 cI cZ ++ [(qm, .inl (cI, 1, .inl (C)))]) := hD.sub [1, 2, 3, 4, 5, 6, 7, 8, 9, 10, 0] (by decide) rfl
    refine lv_sipush (v := (-702)) hx hb dL_isRefused_349 (by decide) ?_
    refine lv_icmp_ne (x := (-702)) (y := (-702)) (tgt := 404) hx hb dL_isRefused_352 (by decide) (fun k => absurd (by decide) k) (fun _ => ?_)
    refine lv_aload_n hx hb dL_isRefused_355 rfl (lv_at hl 6 rfl) ?_
    refine lv_iconst (v := 1) hx hb dL_isRefused_356 (by decide) ?_
    refine lv_iload_n hx hb dL_isRefused_357 rfl (lv_at hl 5 rfl) ?_
    refine lv_if_eq (x := 0) (tgt := 365) hx hb dL_isRefused_358 (by decide) (fun _ => ?_) (fun k => absurd (by decide) k)
    refine lv_sipush (v := 10001) hx hb dL_isRefused_365 (by decide) ?_
    refine lv_iconst (v := 0) hx hb dL_isRefused_368 (by decide) ?_
    refine la_SW (As := [.ref (q 9), .int 1, .int 10001, .int 0]) (rest := []) (wr := [(qm, .inl (cI, 1, .inl (C)))]) ⟨hx, hb, hml, hown, hts⟩ (c_L_setQuantities l hfl D q F n R_104 cI cZ _ 1 10001 0 hw) (vx_cwSW 4 hts gL_isRefused_L_setQuantities rfl rfl rfl (by decide +kernel) ⟨Nat.le_of_ble_eq_true rfl, Nat.le_of_ble_eq_true rfl⟩) hn9 htA hK hP hD hA [0, 1, 2, 3, 4, 5, 6, 7, 8, 9] [10] rfl rfl (by decide) rfl (by decide) (by decide) hS rfl hl.1 rfl (Nat.le_of_ble_eq_true rfl) dL_isRefused_369 ⟨Nat.le_of_ble_eq_true rfl, Nat.le_of_ble_eq_true rfl⟩ (fun r9 u9 H locs h_369 hP hD hS => ?_)
    obtain ⟨h9a, h9b⟩ := h_369.2 (thSQ_1 (Or.inr (Or.inl (by decide))))
    subst h9a
    obtain rfl : F = u9 := h9b.symm
    have hP : va_P D vwCl (wX q F (nI n) R_104 cI cZ ++ [(qm, .inl (cI, 1, .inl (C)))]) H := hP.sub [1, 2, 3, 4, 5, 6, 7, 8, 9, 10, 0] rfl
    have hD : va_D A (wX q F (nI n) R_104 cI cZ ++ [(qm, .inl (cI, 1, .inl (C)))]) := hD.sub [1, 2, 3, 4, 5, 6, 7, 8, 9, 10, 0] (by decide) rfl
    refine lv_sipush (v := (-702)) hx hb dL_isRefused_372 (by decide) ?_
    refine lv_icmp_ne (x := (-702)) (y := (-702)) (tgt := 404) hx hb dL_isRefused_375 (by decide) (fun k => absurd (by decide) k) (fun _ => ?_)
    refine lv_aload_n hx hb dL_isRefused_378 rfl (lv_at hl 6 rfl) ?_
    refine lv_iconst (v := 1) hx hb dL_isRefused_379 (by decide) ?_
    refine lv_iconst (v := 5) hx hb dL_isRefused_380 (by decide) ?_
    refine lv_iload_n hx hb dL_isRefused_381 rfl (lv_at hl 5 rfl) ?_
    refine lv_if_eq (x := 0) (tgt := 389) hx hb dL_isRefused_382 (by decide) (fun _ => ?_) (fun k => absurd (by decide) k)
    refine lv_bipush (v := 6) hx hb dL_isRefused_389 (by decide) ?_
    refine la_SW (As := [.ref (q 9), .int 1, .int 5, .int 6]) (rest := []) (wr := [(qm, .inl (cI, 1, .inl (C)))]) ⟨hx, hb, hml, hown, hts⟩ (c_L_setQuantities l hfl D q F n R_104 cI cZ _ 1 5 6 hw) (vx_cwSW 4 hts gL_isRefused_L_setQuantities rfl rfl rfl (by decide +kernel) ⟨Nat.le_of_ble_eq_true rfl, Nat.le_of_ble_eq_true rfl⟩) hn9 htA hK hP hD hA [0, 1, 2, 3, 4, 5, 6, 7, 8, 9] [10] rfl rfl (by decide) rfl (by decide) (by decide) hS rfl hl.1 rfl (Nat.le_of_ble_eq_true rfl) dL_isRefused_391 ⟨Nat.le_of_ble_eq_true rfl, Nat.le_of_ble_eq_true rfl⟩ (fun r9 u9 H locs h_391 hP hD hS => ?_)
    obtain ⟨h9a, h9b⟩ := h_391.2 (thSQ_1 (Or.inr (Or.inr (by decide))))
    subst h9a
    obtain rfl : F = u9 := h9b.symm
    have hP : va_P D vwCl (wX q F (nI n) R_104 cI cZ ++ [(qm, .inl (cI, 1, .inl (C)))]) H := hP.sub [1, 2, 3, 4, 5, 6, 7, 8, 9, 10, 0] rfl
    have hD : va_D A (wX q F (nI n) R_104 cI cZ ++ [(qm, .inl (cI, 1, .inl (C)))]) := hD.sub [1, 2, 3, 4, 5, 6, 7, 8, 9, 10, 0] (by decide) rfl
    refine lv_sipush (v := (-702)) hx hb dL_isRefused_394 (by decide) ?_
    refine lv_icmp_ne (x := (-702)) (y := (-702)) (tgt := 404) hx hb dL_isRefused_397 (by decide) (fun k => absurd (by decide) k) (fun _ => ?_)
    refine lv_iconst (v := 1) hx hb dL_isRefused_400 (by decide) ?_
    refine lv_goto (tgt := 405) hx hb dL_isRefused_401 (by decide) ?_
    refine lv_istore (lv' := [(10, .int 1), (8, .long (bH F n (n * n))), (7, .int mch), (6, .int plc), (5, .int non), (4, .int ten), (3, .int 0), (0, .ref (q 9)), (1, .ref qm), (2, .int (nI x))]) hx hb dL_isRefused_405 hl (by decide) rfl (fun ls hl => ?_)
    refine lv_iconst (v := 0) hx hb dL_isRefused_407 (by decide) ?_
    refine lv_istore (lv' := [(11, .int 0), (10, .int 1), (8, .long (bH F n (n * n))), (7, .int mch), (6, .int plc), (5, .int non), (4, .int ten), (3, .int 0), (0, .ref (q 9)), (1, .ref qm), (2, .int (nI x))]) hx hb dL_isRefused_408 hl (by decide) rfl (fun ls hl => ?_)
    have L410 : ∀ (d9 : Nat) (w1 : Nat) (H : Heap) (locs : List Loc) (ls : Array Slot), 11 - w1 < d9 → (w1 ≤ 11) → va_P D vwCl (wX q F (nI n) R_104 cI cZ ++ [(qm, .inl (cI, 1, .inl (C)))]) H → va_D A (wX q F (nI n) R_104 cI cZ ++ [(qm, .inl (cI, 1, .inl (C)))]) → va_S A s.heap H locs → lv_has ls 12 [(11, .int (nI w1)), (10, .int 1), (0, .ref (q 9)), (1, .ref qm), (2, .int (nI x)), (4, .int ten), (5, .int non), (6, .int plc), (7, .int mch), (8, .long (bH F n (n * n)))] → W p9 l e9 ({ frames := 21, cells := 300, slots := 1800, locals := 866 }) s m9 a9 below meth c9 H locs (48 + 3 * w1) (288 + 18 * w1) (MQ below (va_Qi (fun (r : Int32) (u : Nat → Int32) => r = 1) (wB D A (fun (u : Nat → Int32) => wC q F (nI n) u cI cZ qm C)) A) a9 s 300 1800 A) (F0 m9 410 ls []) := by
      intro d9
      induction d9 with
      | zero => intro w1 H locs ls h9; exact absurd h9 (Nat.not_lt_zero _)
      | succ d9 ih410 =>
        intro w1 H locs ls hd410 hk1 hP hD hS hl
        refine lv_iload hx hb dL_isRefused_410 (lv_at hl 0 rfl) ?_
        refine lv_bipush (v := 11) hx hb dL_isRefused_412 (by decide) ?_
        refine lv_icmp_ge (x := (nI w1)) (y := 11) (tgt := 451) hx hb dL_isRefused_414 (by decide) (fun c_414 => ?_) (fun c_414 => ?_)
        · have c_414 := nl_ge (k := w1) (n := 11) c_414 (by omega) (by omega)
          refine lv_iconst (v := 0) hx hb dL_isRefused_451 (by decide) ?_
          refine lv_istore (lv' := [(11, .int 0), (10, .int 1), (0, .ref (q 9)), (1, .ref qm), (2, .int (nI x)), (4, .int ten), (5, .int non), (6, .int plc), (7, .int mch), (8, .long (bH F n (n * n)))]) hx hb dL_isRefused_452 hl (by decide) rfl (fun ls hl => ?_)
          have L454 : ∀ (d9 : Nat) (g : Nat) (H : Heap) (locs : List Loc) (ls : Array Slot), n - g < d9 → (g ≤ n) → va_P D vwCl (wX q F (nI n) R_104 cI cZ ++ [(qm, .inl (cI, 1, .inl (C)))]) H → va_D A (wX q F (nI n) R_104 cI cZ ++ [(qm, .inl (cI, 1, .inl (C)))]) → va_S A s.heap H locs → lv_has ls 12 [(11, .int (nI g)), (10, .int 1), (0, .ref (q 9)), (1, .ref qm), (2, .int (nI x)), (4, .int ten), (5, .int non), (6, .int plc), (7, .int mch), (8, .long (bH F n (n * n)))] → W p9 l e9 ({ frames := 21, cells := 300, slots := 1800, locals := 866 }) s m9 a9 below meth c9 H locs (81 + 20 * g) (486 + 120 * g) (MQ below (va_Qi (fun (r : Int32) (u : Nat → Int32) => r = 1) (wB D A (fun (u : Nat → Int32) => wC q F (nI n) u cI cZ qm C)) A) a9 s 300 1800 A) (F0 m9 454 ls []) := by
            intro d9
            induction d9 with
            | zero => intro g H locs ls h9; exact absurd h9 (Nat.not_lt_zero _)
            | succ d9 ih454 =>
              intro g H locs ls hd454 hk2 hP hD hS hl
              refine lv_iload hx hb dL_isRefused_454 (lv_at hl 0 rfl) ?_
              refine lv_aload_n hx hb dL_isRefused_456 rfl (lv_at hl 3 rfl) ?_
              refine lv_iconst (v := 0) hx hb dL_isRefused_457 (by decide) ?_
              refine xiald (g := 0) hx hb hK hP 10 0 rfl rfl (by omega) (by decide) dL_isRefused_458 ?_
              refine W.eq (g2 := F0 m9 459 ls (.int (nI n) :: [.int (nI g)])) (congrArg (fun z => F0 m9 459 ls (Value.int z :: [.int (nI g)])) (hm)) ?_
              refine lv_icmp_ge (x := (nI g)) (y := (nI n)) (tgt := 603) hx hb dL_isRefused_459 (by decide) (fun c_459 => ?_) (fun c_459 => ?_)
              · have c_459 := nl_ge (k := g) (n := n) c_459 (by omega) (by omega)
                refine lv_iload hx hb dL_isRefused_603 (lv_at hl 1 rfl) ?_
                refine lv_if_eq (x := 1) (tgt := 622) hx hb dL_isRefused_605 (by decide) (fun k => absurd k (by decide)) (fun _ => ?_)
                refine lv_aload_n hx hb dL_isRefused_608 rfl (lv_at hl 2 rfl) ?_
                refine wr_Sl (As := [.ref (q 9)]) (rest := []) (wr := [(qm, .inl (cI, 1, .inl (C)))]) ⟨hx, hb, hml, hown, hts⟩ (c_L_all l D q F n R_104 cI cZ _ hw) (va_cwS 1 hts gL_isRefused_L_all rfl rfl rfl (by decide +kernel) ⟨Nat.le_of_ble_eq_true rfl, Nat.le_of_ble_eq_true rfl⟩) hK hP hD hA [0, 1, 2, 3, 4, 5, 6, 7, 8, 9] [10] rfl rfl (by decide) rfl (by decide) (by decide) hS rfl hl.1 rfl (Nat.le_of_ble_eq_true rfl) dL_isRefused_609 ⟨by show _ ≤ 300; omega, by show _ ≤ 1800; omega⟩ (fun r9 R_609 H locs h_609 hP hD hS => ?_)
                obtain rfl := h_609
                have hP : va_P D vwCl (wX q F (nI n) R_609 cI cZ ++ [(qm, .inl (cI, 1, .inl (C)))]) H := hP.sub [1, 2, 3, 4, 5, 6, 7, 8, 9, 10, 0] rfl
                have hD : va_D A (wX q F (nI n) R_609 cI cZ ++ [(qm, .inl (cI, 1, .inl (C)))]) := hD.sub [1, 2, 3, 4, 5, 6, 7, 8, 9, 10, 0] (by decide) rfl
                refine lv_lload hx hb dL_isRefused_612 (lv_at hl 9 rfl) ?_
                refine W.lcmp hx hb dL_isRefused_614 ?_
                refine W.eq (g2 := F0 m9 615 ls (.int 0 :: [])) (congrArg (fun z => F0 m9 615 ls (Value.int z :: [])) (lg_eq rfl)) ?_
                refine lv_if_ne (x := 0) (tgt := 622) hx hb dL_isRefused_615 (by decide) (fun k => absurd (by decide) k) (fun _ => ?_)
                refine lv_iconst (v := 1) hx hb dL_isRefused_618 (by decide) ?_
                refine lv_goto (tgt := 623) hx hb dL_isRefused_619 (by decide) ?_
                refine W.widen (k := 300) (n := 1800) (by omega) (by omega) ?_
                exact W.zret hx hb hr zn1 (fun t ht9 hW => ⟨⟨_, R_609, rfl, (by show 1 = 1; exact rfl), by rw [ht9]; exact hP, hD⟩, hS.F ht9⟩) hS.2.2 dL_isRefused_623
              · have c_459 := nl_lt (k := g) (n := n) c_459 (by omega) (by omega)
                refine lv_iload hx hb dL_isRefused_462 (lv_at hl 1 rfl) ?_
                refine lv_if_eq (x := 1) (tgt := 603) hx hb dL_isRefused_464 (by decide) (fun k => absurd k (by decide)) (fun _ => ?_)
                have hgd : mIn (nI g) 0 (nI n - 1) = true := (gd_iff hn16).mpr ⟨g, c_459, rfl⟩
                refine lv_aload_n hx hb dL_isRefused_467 rfl (lv_at hl 2 rfl) ?_
                refine lv_iconst (v := 0) hx hb dL_isRefused_468 (by decide) ?_
                refine lv_iload hx hb dL_isRefused_469 (lv_at hl 0 rfl) ?_
                refine lv_iload hx hb dL_isRefused_471 (lv_at hl 8 rfl) ?_
                refine la_SW (As := [.ref (q 9), .int 0, .int (nI g), .int mch]) (rest := []) (wr := [(qm, .inl (cI, 1, .inl (C)))]) ⟨hx, hb, hml, hown, hts⟩ (c_L_of_0 l hfl D q F n R_104 cI cZ _ (nI g) mch hw) (vx_cwSW 4 hts gL_isRefused_L_of rfl rfl rfl (by decide +kernel) ⟨Nat.le_of_ble_eq_true rfl, Nat.le_of_ble_eq_true rfl⟩) hn9 htA hK hP hD hA [0, 1, 2, 3, 4, 5, 6, 7, 8, 9] [10] rfl rfl (by decide) rfl (by decide) (by decide) hS rfl hl.1 rfl (Nat.le_of_ble_eq_true rfl) dL_isRefused_473 ⟨by show _ ≤ 300; omega, by show _ ≤ 1800; omega⟩ (fun r9 u9 H locs h_473 hP hD hS => ?_)
                obtain ⟨h9a, h9b⟩ := h_473.2.2 (thQ_2 hgd hq)
                subst h9a
                obtain rfl : F = u9 := h9b.symm
                have hP : va_P D vwCl (wX q F (nI n) R_104 cI cZ ++ [(qm, .inl (cI, 1, .inl (C)))]) H := hP.sub [1, 2, 3, 4, 5, 6, 7, 8, 9, 10, 0] rfl
                have hD : va_D A (wX q F (nI n) R_104 cI cZ ++ [(qm, .inl (cI, 1, .inl (C)))]) := hD.sub [1, 2, 3, 4, 5, 6, 7, 8, 9, 10, 0] (by decide) rfl
                refine lv_sipush (v := (-702)) hx hb dL_isRefused_476 (by decide) ?_
                refine lv_icmp_ne (x := (-702)) (y := (-702)) (tgt := 594) hx hb dL_isRefused_479 (by decide) (fun k => absurd (by decide) k) (fun _ => ?_)
                refine lv_aload_n hx hb dL_isRefused_482 rfl (lv_at hl 2 rfl) ?_
                refine lv_iconst (v := 1) hx hb dL_isRefused_483 (by decide) ?_
                refine lv_iload hx hb dL_isRefused_484 (lv_at hl 0 rfl) ?_
                refine lv_iload hx hb dL_isRefused_486 (lv_at hl 7 rfl) ?_
                refine la_SW (As := [.ref (q 9), .int 1, .int (nI g), .int plc]) (rest := []) (wr := [(qm, .inl (cI, 1, .inl (C)))]) ⟨hx, hb, hml, hown, hts⟩ (c_L_of_1 l hfl D q F n R_104 cI cZ _ (nI g) plc hw) (vx_cwSW 4 hts gL_isRefused_L_of rfl rfl rfl (by decide +kernel) ⟨Nat.le_of_ble_eq_true rfl, Nat.le_of_ble_eq_true rfl⟩) hn9 htA hK hP hD hA [0, 1, 2, 3, 4, 5, 6, 7, 8, 9] [10] rfl rfl (by decide) rfl (by decide) (by decide) hS rfl hl.1 rfl (Nat.le_of_ble_eq_true rfl) dL_isRefused_488 ⟨by show _ ≤ 300; omega, by show _ ≤ 1800; omega⟩ (fun r9 u9 H locs h_488 hP hD hS => ?_)
                obtain ⟨h9a, h9b⟩ := h_488.2.2 (thP_2 hgd hpm hp)
                subst h9a
                obtain rfl : F = u9 := h9b.symm
                have hP : va_P D vwCl (wX q F (nI n) R_104 cI cZ ++ [(qm, .inl (cI, 1, .inl (C)))]) H := hP.sub [1, 2, 3, 4, 5, 6, 7, 8, 9, 10, 0] rfl
                have hD : va_D A (wX q F (nI n) R_104 cI cZ ++ [(qm, .inl (cI, 1, .inl (C)))]) := hD.sub [1, 2, 3, 4, 5, 6, 7, 8, 9, 10, 0] (by decide) rfl
                refine lv_sipush (v := (-702)) hx hb dL_isRefused_491 (by decide) ?_
                refine lv_icmp_ne (x := (-702)) (y := (-702)) (tgt := 594) hx hb dL_isRefused_494 (by decide) (fun k => absurd (by decide) k) (fun _ => ?_)
                refine lv_aload_n hx hb dL_isRefused_497 rfl (lv_at hl 2 rfl) ?_
                refine lv_iconst (v := 5) hx hb dL_isRefused_498 (by decide) ?_
                refine lv_iload hx hb dL_isRefused_499 (lv_at hl 0 rfl) ?_
                refine lv_iload hx hb dL_isRefused_501 (lv_at hl 0 rfl) ?_
                refine la_SW (As := [.ref (q 9), .int 5, .int (nI g), .int (nI g)]) (rest := []) (wr := [(qm, .inl (cI, 1, .inl (C)))]) ⟨hx, hb, hml, hown, hts⟩ (c_L_of_5 l hfl D q F n R_104 cI cZ _ (nI g) (nI g) hw) (vx_cwSW 4 hts gL_isRefused_L_of rfl rfl rfl (by decide +kernel) ⟨Nat.le_of_ble_eq_true rfl, Nat.le_of_ble_eq_true rfl⟩) hn9 htA hK hP hD hA [0, 1, 2, 3, 4, 5, 6, 7, 8, 9] [10] rfl rfl (by decide) rfl (by decide) (by decide) hS rfl hl.1 rfl (Nat.le_of_ble_eq_true rfl) dL_isRefused_503 ⟨by show _ ≤ 300; omega, by show _ ≤ 1800; omega⟩ (fun r9 u9 H locs h_503 hP hD hS => ?_)
                obtain rfl := h_503.2 (th2_2 hgd hgd rfl)
                have hP : va_P D vwCl (wX q F (nI n) R_104 cI cZ ++ [(qm, .inl (cI, 1, .inl (C)))]) H := hP.sub [1, 2, 3, 4, 5, 6, 7, 8, 9, 10, 0] rfl
                have hD : va_D A (wX q F (nI n) R_104 cI cZ ++ [(qm, .inl (cI, 1, .inl (C)))]) := hD.sub [1, 2, 3, 4, 5, 6, 7, 8, 9, 10, 0] (by decide) rfl
                refine lv_sipush (v := (-702)) hx hb dL_isRefused_506 (by decide) ?_
                refine lv_icmp_ne (x := (-702)) (y := (-702)) (tgt := 594) hx hb dL_isRefused_509 (by decide) (fun k => absurd (by decide) k) (fun _ => ?_)
                refine lv_aload_n hx hb dL_isRefused_512 rfl (lv_at hl 2 rfl) ?_
                refine lv_bipush (v := 6) hx hb dL_isRefused_513 (by decide) ?_
                refine lv_iload hx hb dL_isRefused_515 (lv_at hl 0 rfl) ?_
                refine lv_iload hx hb dL_isRefused_517 (lv_at hl 0 rfl) ?_
                refine la_SW (As := [.ref (q 9), .int 6, .int (nI g), .int (nI g)]) (rest := []) (wr := [(qm, .inl (cI, 1, .inl (C)))]) ⟨hx, hb, hml, hown, hts⟩ (c_L_of_6 l hfl D q F n R_104 cI cZ _ (nI g) (nI g) hw) (vx_cwSW 4 hts gL_isRefused_L_of rfl rfl rfl (by decide +kernel) ⟨Nat.le_of_ble_eq_true rfl, Nat.le_of_ble_eq_true rfl⟩) hn9 htA hK hP hD hA [0, 1, 2, 3, 4, 5, 6, 7, 8, 9] [10] rfl rfl (by decide) rfl (by decide) (by decide) hS rfl hl.1 rfl (Nat.le_of_ble_eq_true rfl) dL_isRefused_519 ⟨by show _ ≤ 300; omega, by show _ ≤ 1800; omega⟩ (fun r9 u9 H locs h_519 hP hD hS => ?_)
                obtain rfl := h_519.2 (th2_2 hgd hgd rfl)
                have hP : va_P D vwCl (wX q F (nI n) R_104 cI cZ ++ [(qm, .inl (cI, 1, .inl (C)))]) H := hP.sub [1, 2, 3, 4, 5, 6, 7, 8, 9, 10, 0] rfl
                have hD : va_D A (wX q F (nI n) R_104 cI cZ ++ [(qm, .inl (cI, 1, .inl (C)))]) := hD.sub [1, 2, 3, 4, 5, 6, 7, 8, 9, 10, 0] (by decide) rfl
                refine lv_sipush (v := (-702)) hx hb dL_isRefused_522 (by decide) ?_
                refine lv_icmp_ne (x := (-702)) (y := (-702)) (tgt := 594) hx hb dL_isRefused_525 (by decide) (fun k => absurd (by decide) k) (fun _ => ?_)
                refine lv_aload_n hx hb dL_isRefused_528 rfl (lv_at hl 2 rfl) ?_
                refine lv_bipush (v := 9) hx hb dL_isRefused_529 (by decide) ?_
                refine lv_iload hx hb dL_isRefused_531 (lv_at hl 0 rfl) ?_
                refine lv_iload hx hb dL_isRefused_533 (lv_at hl 7 rfl) ?_
                refine la_SW (As := [.ref (q 9), .int 9, .int (nI g), .int plc]) (rest := []) (wr := [(qm, .inl (cI, 1, .inl (C)))]) ⟨hx, hb, hml, hown, hts⟩ (c_L_of_9 l hfl D q F n R_104 cI cZ _ (nI g) plc hw) (vx_cwSW 4 hts gL_isRefused_L_of rfl rfl rfl (by decide +kernel) ⟨Nat.le_of_ble_eq_true rfl, Nat.le_of_ble_eq_true rfl⟩) hn9 htA hK hP hD hA [0, 1, 2, 3, 4, 5, 6, 7, 8, 9] [10] rfl rfl (by decide) rfl (by decide) (by decide) hS rfl hl.1 rfl (Nat.le_of_ble_eq_true rfl) dL_isRefused_535 ⟨by show _ ≤ 300; omega, by show _ ≤ 1800; omega⟩ (fun r9 u9 H locs h_535 hP hD hS => ?_)
                obtain rfl := h_535.2 (thCP_2 hgd hp)
                have hP : va_P D vwCl (wX q F (nI n) R_104 cI cZ ++ [(qm, .inl (cI, 1, .inl (C)))]) H := hP.sub [1, 2, 3, 4, 5, 6, 7, 8, 9, 10, 0] rfl
                have hD : va_D A (wX q F (nI n) R_104 cI cZ ++ [(qm, .inl (cI, 1, .inl (C)))]) := hD.sub [1, 2, 3, 4, 5, 6, 7, 8, 9, 10, 0] (by decide) rfl
                refine lv_sipush (v := (-702)) hx hb dL_isRefused_538 (by decide) ?_
                refine lv_icmp_ne (x := (-702)) (y := (-702)) (tgt := 594) hx hb dL_isRefused_541 (by decide) (fun k => absurd (by decide) k) (fun _ => ?_)
                refine lv_aload_n hx hb dL_isRefused_544 rfl (lv_at hl 2 rfl) ?_
                refine lv_bipush (v := 9) hx hb dL_isRefused_545 (by decide) ?_
                refine lv_iload hx hb dL_isRefused_547 (lv_at hl 0 rfl) ?_
                refine lv_iconst (v := (-1)) hx hb dL_isRefused_549 (by decide) ?_
                refine la_SW (As := [.ref (q 9), .int 9, .int (nI g), .int (-1)]) (rest := []) (wr := [(qm, .inl (cI, 1, .inl (C)))]) ⟨hx, hb, hml, hown, hts⟩ (c_L_of_9 l hfl D q F n R_104 cI cZ _ (nI g) (-1) hw) (vx_cwSW 4 hts gL_isRefused_L_of rfl rfl rfl (by decide +kernel) ⟨Nat.le_of_ble_eq_true rfl, Nat.le_of_ble_eq_true rfl⟩) hn9 htA hK hP hD hA [0, 1, 2, 3, 4, 5, 6, 7, 8, 9] [10] rfl rfl (by decide) rfl (by decide) (by decide) hS rfl hl.1 rfl (Nat.le_of_ble_eq_true rfl) dL_isRefused_550 ⟨by show _ ≤ 300; omega, by show _ ≤ 1800; omega⟩ (fun r9 u9 H locs h_550 hP hD hS => ?_)
                obtain rfl := h_550.2 (thCP_2 hgd (by decide))
                have hP : va_P D vwCl (wX q F (nI n) R_104 cI cZ ++ [(qm, .inl (cI, 1, .inl (C)))]) H := hP.sub [1, 2, 3, 4, 5, 6, 7, 8, 9, 10, 0] rfl
                have hD : va_D A (wX q F (nI n) R_104 cI cZ ++ [(qm, .inl (cI, 1, .inl (C)))]) := hD.sub [1, 2, 3, 4, 5, 6, 7, 8, 9, 10, 0] (by decide) rfl
                refine lv_sipush (v := (-702)) hx hb dL_isRefused_553 (by decide) ?_
                refine lv_icmp_ne (x := (-702)) (y := (-702)) (tgt := 594) hx hb dL_isRefused_556 (by decide) (fun k => absurd (by decide) k) (fun _ => ?_)
                refine lv_aload_n hx hb dL_isRefused_559 rfl (lv_at hl 2 rfl) ?_
                refine lv_iconst (v := 5) hx hb dL_isRefused_560 (by decide) ?_
                refine lv_iload hx hb dL_isRefused_561 (lv_at hl 0 rfl) ?_
                refine lv_iload hx hb dL_isRefused_563 (lv_at hl 6 rfl) ?_
                refine la_SW (As := [.ref (q 9), .int 5, .int (nI g), .int non]) (rest := []) (wr := [(qm, .inl (cI, 1, .inl (C)))]) ⟨hx, hb, hml, hown, hts⟩ (c_L_of_5 l hfl D q F n R_104 cI cZ _ (nI g) non hw) (vx_cwSW 4 hts gL_isRefused_L_of rfl rfl rfl (by decide +kernel) ⟨Nat.le_of_ble_eq_true rfl, Nat.le_of_ble_eq_true rfl⟩) hn9 htA hK hP hD hA [0, 1, 2, 3, 4, 5, 6, 7, 8, 9] [10] rfl rfl (by decide) rfl (by decide) (by decide) hS rfl hl.1 rfl (Nat.le_of_ble_eq_true rfl) dL_isRefused_565 ⟨by show _ ≤ 300; omega, by show _ ≤ 1800; omega⟩ (fun r9 u9 H locs h_565 hP hD hS => ?_)
                obtain rfl := h_565.1 (th2_1 (Or.inr hnn))
                have hP : va_P D vwCl (wX q F (nI n) R_104 cI cZ ++ [(qm, .inl (cI, 1, .inl (C)))]) H := hP.sub [1, 2, 3, 4, 5, 6, 7, 8, 9, 10, 0] rfl
                have hD : va_D A (wX q F (nI n) R_104 cI cZ ++ [(qm, .inl (cI, 1, .inl (C)))]) := hD.sub [1, 2, 3, 4, 5, 6, 7, 8, 9, 10, 0] (by decide) rfl
                refine lv_sipush (v := (-701)) hx hb dL_isRefused_568 (by decide) ?_
                refine lv_icmp_ne (x := (-701)) (y := (-701)) (tgt := 594) hx hb dL_isRefused_571 (by decide) (fun k => absurd (by decide) k) (fun _ => ?_)
                refine lv_aload_n hx hb dL_isRefused_574 rfl (lv_at hl 2 rfl) ?_
                refine lv_bipush (v := 6) hx hb dL_isRefused_575 (by decide) ?_
                refine lv_iload hx hb dL_isRefused_577 (lv_at hl 6 rfl) ?_
                refine lv_iload hx hb dL_isRefused_579 (lv_at hl 0 rfl) ?_
                refine la_SW (As := [.ref (q 9), .int 6, .int non, .int (nI g)]) (rest := []) (wr := [(qm, .inl (cI, 1, .inl (C)))]) ⟨hx, hb, hml, hown, hts⟩ (c_L_of_6 l hfl D q F n R_104 cI cZ _ non (nI g) hw) (vx_cwSW 4 hts gL_isRefused_L_of rfl rfl rfl (by decide +kernel) ⟨Nat.le_of_ble_eq_true rfl, Nat.le_of_ble_eq_true rfl⟩) hn9 htA hK hP hD hA [0, 1, 2, 3, 4, 5, 6, 7, 8, 9] [10] rfl rfl (by decide) rfl (by decide) (by decide) hS rfl hl.1 rfl (Nat.le_of_ble_eq_true rfl) dL_isRefused_581 ⟨by show _ ≤ 300; omega, by show _ ≤ 1800; omega⟩ (fun r9 u9 H locs h_581 hP hD hS => ?_)
                obtain rfl := h_581.1 (th2_1 (Or.inl hnn))
                have hP : va_P D vwCl (wX q F (nI n) R_104 cI cZ ++ [(qm, .inl (cI, 1, .inl (C)))]) H := hP.sub [1, 2, 3, 4, 5, 6, 7, 8, 9, 10, 0] rfl
                have hD : va_D A (wX q F (nI n) R_104 cI cZ ++ [(qm, .inl (cI, 1, .inl (C)))]) := hD.sub [1, 2, 3, 4, 5, 6, 7, 8, 9, 10, 0] (by decide) rfl
                refine lv_sipush (v := (-701)) hx hb dL_isRefused_584 (by decide) ?_
                refine lv_icmp_ne (x := (-701)) (y := (-701)) (tgt := 594) hx hb dL_isRefused_587 (by decide) (fun k => absurd (by decide) k) (fun _ => ?_)
                refine lv_iconst (v := 1) hx hb dL_isRefused_590 (by decide) ?_
                refine lv_goto (tgt := 595) hx hb dL_isRefused_591 (by decide) ?_
                refine lv_istore (lv' := [(10, .int 1), (11, .int (nI g)), (0, .ref (q 9)), (1, .ref qm), (2, .int (nI x)), (4, .int ten), (5, .int non), (6, .int plc), (7, .int mch), (8, .long (bH F n (n * n)))]) hx hb dL_isRefused_595 hl (by decide) rfl (fun ls hl => ?_)
                refine lv_iinc (v := (nI (g + 1))) (lv' := [(11, .int (nI (g + 1))), (10, .int 1), (0, .ref (q 9)), (1, .ref qm), (2, .int (nI x)), (4, .int ten), (5, .int non), (6, .int plc), (7, .int mch), (8, .long (bH F n (n * n)))]) hx hb dL_isRefused_597 hl (k := 1) rfl (nI_add g 1) (by decide) rfl (fun ls hl => ?_)
                refine lv_goto (tgt := 454) hx hb dL_isRefused_600 (by decide) ?_
                refine W.widen (k := 81 + 20 * (g + 1)) (n := 486 + 120 * (g + 1)) (by omega) (by omega) ?_
                exact ih454 (g + 1) _ _ _ (by omega) (by omega) hP hD hS (lv_sub hl [0, 1, 2, 3, 4, 5, 6, 7, 8, 9] rfl)
          refine W.widen (k := 81 + 20 * 0) (n := 486 + 120 * 0) (by omega) (by omega) ?_
          exact L454 _ 0 _ _ _ (Nat.lt_succ_self _) (by omega) hP hD hS (lv_sub hl [0, 1, 2, 3, 4, 5, 6, 7, 8, 9] rfl)
        · have c_414 := nl_lt (k := w1) (n := 11) c_414 (by omega) (by omega)
          refine lv_iload hx hb dL_isRefused_417 (lv_at hl 1 rfl) ?_
          refine lv_if_eq (x := 1) (tgt := 451) hx hb dL_isRefused_419 (by decide) (fun k => absurd k (by decide)) (fun _ => ?_)
          refine lv_aload_n hx hb dL_isRefused_422 rfl (lv_at hl 2 rfl) ?_
          refine lv_iload hx hb dL_isRefused_423 (lv_at hl 0 rfl) ?_
          refine lv_iload hx hb dL_isRefused_425 (lv_at hl 6 rfl) ?_
          refine lv_iload hx hb dL_isRefused_427 (lv_at hl 7 rfl) ?_
          refine la_SW (As := [.ref (q 9), .int (nI w1), .int non, .int plc]) (rest := []) (wr := [(qm, .inl (cI, 1, .inl (C)))]) ⟨hx, hb, hml, hown, hts⟩ (c_L_of_none l hfl D q F n R_104 cI cZ _ w1 non plc hw c_414 hnn) (vx_cwSW 4 hts gL_isRefused_L_of rfl rfl rfl (by decide +kernel) ⟨Nat.le_of_ble_eq_true rfl, Nat.le_of_ble_eq_true rfl⟩) hn9 htA hK hP hD hA [0, 1, 2, 3, 4, 5, 6, 7, 8, 9] [10] rfl rfl (by decide) rfl (by decide) (by decide) hS rfl hl.1 rfl (Nat.le_of_ble_eq_true rfl) dL_isRefused_429 ⟨by show _ ≤ 300; omega, by show _ ≤ 1800; omega⟩ (fun r9 u9 H locs h_429 hP hD hS => ?_)
          obtain rfl := h_429
          have hP : va_P D vwCl (wX q F (nI n) R_104 cI cZ ++ [(qm, .inl (cI, 1, .inl (C)))]) H := hP.sub [1, 2, 3, 4, 5, 6, 7, 8, 9, 10, 0] rfl
          have hD : va_D A (wX q F (nI n) R_104 cI cZ ++ [(qm, .inl (cI, 1, .inl (C)))]) := hD.sub [1, 2, 3, 4, 5, 6, 7, 8, 9, 10, 0] (by decide) rfl
          refine lv_sipush (v := (-701)) hx hb dL_isRefused_432 (by decide) ?_
          refine lv_icmp_ne (x := (-701)) (y := (-701)) (tgt := 442) hx hb dL_isRefused_435 (by decide) (fun k => absurd (by decide) k) (fun _ => ?_)
          refine lv_iconst (v := 1) hx hb dL_isRefused_438 (by decide) ?_
          refine lv_goto (tgt := 443) hx hb dL_isRefused_439 (by decide) ?_
          refine lv_istore (lv' := [(10, .int 1), (11, .int (nI w1)), (0, .ref (q 9)), (1, .ref qm), (2, .int (nI x)), (4, .int ten), (5, .int non), (6, .int plc), (7, .int mch), (8, .long (bH F n (n * n)))]) hx hb dL_isRefused_443 hl (by decide) rfl (fun ls hl => ?_)
          refine lv_iinc (v := (nI (w1 + 1))) (lv' := [(11, .int (nI (w1 + 1))), (10, .int 1), (0, .ref (q 9)), (1, .ref qm), (2, .int (nI x)), (4, .int ten), (5, .int non), (6, .int plc), (7, .int mch), (8, .long (bH F n (n * n)))]) hx hb dL_isRefused_445 hl (k := 1) rfl (nI_add w1 1) (by decide) rfl (fun ls hl => ?_)
          refine lv_goto (tgt := 410) hx hb dL_isRefused_448 (by decide) ?_
          refine W.widen (k := 48 + 3 * (w1 + 1)) (n := 288 + 18 * (w1 + 1)) (by omega) (by omega) ?_
          exact ih410 (w1 + 1) _ _ _ (by omega) (by omega) hP hD hS (lv_sub hl [0, 1, 2, 3, 4, 5, 6, 7, 8, 9] rfl)
    refine W.widen (k := 48 + 3 * 0) (n := 288 + 18 * 0) (by omega) (by omega) ?_
    exact L410 _ 0 _ _ _ (Nat.lt_succ_self _) (by omega) hP hD hS (lv_sub hl [0, 1, 8, 9, 10, 6, 5, 4, 3, 2] rfl)
  · have c_3 := nq_eq (k := (x % 2)) (n := 0) c_3 (by omega) (by omega)
    refine lv_iconst (v := 1) hx hb dL_isRefused_6 (by decide) ?_
    refine lv_goto (tgt := 11) hx hb dL_isRefused_7 (by decide) ?_
    refine lv_istore_n (lv' := [(3, .int 1), (0, .ref (q 9)), (1, .ref qm), (2, .int (nI x))]) hx hb dL_isRefused_11 rfl hl (by decide) rfl (fun ls hl => ?_)
    refine lv_iload_n hx hb dL_isRefused_12 rfl (lv_at hl 0 rfl) ?_
    refine lv_if_eq (x := 1) (tgt := 25) hx hb dL_isRefused_13 (by decide) (fun k => absurd k (by decide)) (fun _ => ?_)
    refine lv_iconst (v := 0) hx hb dL_isRefused_16 (by decide) ?_
    refine lv_iload_n hx hb dL_isRefused_17 rfl (lv_at hl 3 rfl) ?_
    refine lv_bipush (v := 40) hx hb dL_isRefused_18 (by decide) ?_
    refine lv_irem hx hb (x := (nI x)) (y := 40) dL_isRefused_20 (by decide) ?_
    refine W.eq (g2 := F0 m9 21 ls (.int (nI (x % 40)) :: [.int 0])) (congrArg (fun z => F0 m9 21 ls (Value.int z :: [.int 0])) (pk_rem (a := x) (d := 40) (by omega) (by omega) (by omega))) ?_
    refine lv_isub hx hb (x := 0) (y := (nI (x % 40))) dL_isRefused_21 ?_
    refine lv_goto (tgt := 32) hx hb dL_isRefused_22 (by decide) ?_
    refine lv_istore (lv' := [(4, .int (0 - (nI (x % 40)))), (3, .int 1), (0, .ref (q 9)), (1, .ref qm), (2, .int (nI x))]) hx hb dL_isRefused_32 hl (by decide) rfl (fun ls hl => ?_)
    refine lv_iload_n hx hb dL_isRefused_34 rfl (lv_at hl 1 rfl) ?_
    refine lv_if_eq (x := 1) (tgt := 47) hx hb dL_isRefused_35 (by decide) (fun k => absurd k (by decide)) (fun _ => ?_)
    refine lv_iconst (v := (-1)) hx hb dL_isRefused_38 (by decide) ?_
    refine lv_iload_n hx hb dL_isRefused_39 rfl (lv_at hl 4 rfl) ?_
    refine lv_bipush (v := 40) hx hb dL_isRefused_40 (by decide) ?_
    refine lv_irem hx hb (x := (nI x)) (y := 40) dL_isRefused_42 (by decide) ?_
    refine W.eq (g2 := F0 m9 43 ls (.int (nI (x % 40)) :: [.int (-1)])) (congrArg (fun z => F0 m9 43 ls (Value.int z :: [.int (-1)])) (pk_rem (a := x) (d := 40) (by omega) (by omega) (by omega))) ?_
    refine lv_isub hx hb (x := (-1)) (y := (nI (x % 40))) dL_isRefused_43 ?_
    refine lv_goto (tgt := 55) hx hb dL_isRefused_44 (by decide) ?_
    refine lv_istore (lv' := [(5, .int ((-1) - (nI (x % 40)))), (4, .int (0 - (nI (x % 40)))), (3, .int 1), (0, .ref (q 9)), (1, .ref qm), (2, .int (nI x))]) hx hb dL_isRefused_55 hl (by decide) rfl (fun ls hl => ?_)
    refine lv_iload_n hx hb dL_isRefused_57 rfl (lv_at hl 2 rfl) ?_
    refine lv_if_eq (x := 1) (tgt := 71) hx hb dL_isRefused_58 (by decide) (fun k => absurd k (by decide)) (fun _ => ?_)
    refine lv_bipush (v := (-2)) hx hb dL_isRefused_61 (by decide) ?_
    refine lv_iload_n hx hb dL_isRefused_63 rfl (lv_at hl 5 rfl) ?_
    refine lv_bipush (v := 40) hx hb dL_isRefused_64 (by decide) ?_
    refine lv_irem hx hb (x := (nI x)) (y := 40) dL_isRefused_66 (by decide) ?_
    refine W.eq (g2 := F0 m9 67 ls (.int (nI (x % 40)) :: [.int (-2)])) (congrArg (fun z => F0 m9 67 ls (Value.int z :: [.int (-2)])) (pk_rem (a := x) (d := 40) (by omega) (by omega) (by omega))) ?_
    refine lv_isub hx hb (x := (-2)) (y := (nI (x % 40))) dL_isRefused_67 ?_
    refine lv_goto (tgt := 78) hx hb dL_isRefused_68 (by decide) ?_
    refine lv_istore (lv' := [(6, .int ((-2) - (nI (x % 40)))), (5, .int ((-1) - (nI (x % 40)))), (4, .int (0 - (nI (x % 40)))), (3, .int 1), (0, .ref (q 9)), (1, .ref qm), (2, .int (nI x))]) hx hb dL_isRefused_78 hl (by decide) rfl (fun ls hl => ?_)
    refine lv_iload_n hx hb dL_isRefused_80 rfl (lv_at hl 3 rfl) ?_
    refine lv_if_eq (x := 1) (tgt := 93) hx hb dL_isRefused_81 (by decide) (fun k => absurd k (by decide)) (fun _ => ?_)
    refine lv_iconst (v := 0) hx hb dL_isRefused_84 (by decide) ?_
    refine lv_iload_n hx hb dL_isRefused_85 rfl (lv_at hl 6 rfl) ?_
    refine lv_bipush (v := 40) hx hb dL_isRefused_86 (by decide) ?_
    refine lv_irem hx hb (x := (nI x)) (y := 40) dL_isRefused_88 (by decide) ?_
    refine W.eq (g2 := F0 m9 89 ls (.int (nI (x % 40)) :: [.int 0])) (congrArg (fun z => F0 m9 89 ls (Value.int z :: [.int 0])) (pk_rem (a := x) (d := 40) (by omega) (by omega) (by omega))) ?_
    refine lv_isub hx hb (x := 0) (y := (nI (x % 40))) dL_isRefused_89 ?_
    refine lv_goto (tgt := 101) hx hb dL_isRefused_90 (by decide) ?_
    refine lv_istore (lv' := [(7, .int (0 - (nI (x % 40)))), (6, .int ((-2) - (nI (x % 40)))), (5, .int ((-1) - (nI (x % 40)))), (4, .int (0 - (nI (x % 40)))), (3, .int 1), (0, .ref (q 9)), (1, .ref qm), (2, .int (nI x))]) hx hb dL_isRefused_101 hl (by decide) rfl (fun ls hl => ?_)
    have hq : mIn (0 - (nI (x % 40))) 1 10000 = false := lo_mch _ (by omega)
    have ht : mIn (0 - (nI (x % 40))) 1 9 = false := lo_ten _ (by omega)
    generalize (0 - (nI (x % 40))) = mch at hq ht hl
    have hpp : mIn ((-2) - (nI (x % 40))) 0 47 = false ∧ ¬ ((-2) - (nI (x % 40))) = -1 := lo_plc _ (by omega)
    generalize ((-2) - (nI (x % 40))) = plc at hpp hl
    have hnn : mIn ((-1) - (nI (x % 40))) 0 (nI n - 1) = false := lo_non hn10 (by omega)
    generalize ((-1) - (nI (x % 40))) = non at hnn hl
    obtain ⟨hp, hpm⟩ := hpp
    refine lv_aload_n hx hb dL_isRefused_103 rfl (lv_at hl 5 rfl) ?_
    refine wr_Sl (As := [.ref (q 9)]) (rest := []) (wr := [(qm, .inl (cI, 1, .inl (C)))]) ⟨hx, hb, hml, hown, hts⟩ (c_L_all l D q F n R cI cZ _ hw) (va_cwS 1 hts gL_isRefused_L_all rfl rfl rfl (by decide +kernel) ⟨Nat.le_of_ble_eq_true rfl, Nat.le_of_ble_eq_true rfl⟩) hK hP hD hA [0, 1, 2, 3, 4, 5, 6, 7, 8, 9] [10] rfl rfl (by decide) rfl (by decide) (by decide) hS rfl hl.1 rfl (Nat.le_of_ble_eq_true rfl) dL_isRefused_104 ⟨Nat.le_of_ble_eq_true rfl, Nat.le_of_ble_eq_true rfl⟩ (fun r9 R_104 H locs h_104 hP hD hS => ?_)
    obtain rfl := h_104
    have hP : va_P D vwCl (wX q F (nI n) R_104 cI cZ ++ [(qm, .inl (cI, 1, .inl (C)))]) H := hP.sub [1, 2, 3, 4, 5, 6, 7, 8, 9, 10, 0] rfl
    have hD : va_D A (wX q F (nI n) R_104 cI cZ ++ [(qm, .inl (cI, 1, .inl (C)))]) := hD.sub [1, 2, 3, 4, 5, 6, 7, 8, 9, 10, 0] (by decide) rfl
    refine lv_lstore (lv' := [(8, .long (bH F n (n * n))), (7, .int mch), (6, .int plc), (5, .int non), (4, .int mch), (3, .int 1), (0, .ref (q 9)), (1, .ref qm), (2, .int (nI x))]) hx hb dL_isRefused_107 hl (by decide) rfl (fun ls hl => ?_)
    refine lv_aload_n hx hb dL_isRefused_109 rfl (lv_at hl 6 rfl) ?_
    refine lv_iconst (v := 0) hx hb dL_isRefused_110 (by decide) ?_
    refine lv_iload hx hb dL_isRefused_111 (lv_at hl 4 rfl) ?_
    refine lv_iconst (v := 1) hx hb dL_isRefused_113 (by decide) ?_
    refine lv_iconst (v := 1) hx hb dL_isRefused_114 (by decide) ?_
    refine la_SW (As := [.ref (q 9), .int 0, .int mch, .int 1, .int 1]) (rest := []) (wr := [(qm, .inl (cI, 1, .inl (C)))]) ⟨hx, hb, hml, hown, hts⟩ (c_L_rule_sd l hfl D q F n R_104 cI cZ _ mch 1 1 hw) (vx_cwSW 5 hts gL_isRefused_L_rule rfl rfl rfl (by decide +kernel) ⟨Nat.le_of_ble_eq_true rfl, Nat.le_of_ble_eq_true rfl⟩) hn9 htA hK hP hD hA [0, 1, 2, 3, 4, 5, 6, 7, 8, 9] [10] rfl rfl (by decide) rfl (by decide) (by decide) hS rfl hl.1 rfl (Nat.le_of_ble_eq_true rfl) dL_isRefused_115 ⟨Nat.le_of_ble_eq_true rfl, Nat.le_of_ble_eq_true rfl⟩ (fun r9 u9 H locs h_115 hP hD hS => ?_)
    obtain ⟨h9a, h9b⟩ := h_115.2 (thSD_1 (Or.inl ht))
    subst h9a
    obtain rfl : F = u9 := h9b.symm
    have hP : va_P D vwCl (wX q F (nI n) R_104 cI cZ ++ [(qm, .inl (cI, 1, .inl (C)))]) H := hP.sub [1, 2, 3, 4, 5, 6, 7, 8, 9, 10, 0] rfl
    have hD : va_D A (wX q F (nI n) R_104 cI cZ ++ [(qm, .inl (cI, 1, .inl (C)))]) := hD.sub [1, 2, 3, 4, 5, 6, 7, 8, 9, 10, 0] (by decide) rfl
    refine lv_sipush (v := (-702)) hx hb dL_isRefused_118 (by decide) ?_
    refine lv_icmp_ne (x := (-702)) (y := (-702)) (tgt := 404) hx hb dL_isRefused_121 (by decide) (fun k => absurd (by decide) k) (fun _ => ?_)
    refine lv_aload_n hx hb dL_isRefused_124 rfl (lv_at hl 6 rfl) ?_
    refine lv_iconst (v := 0) hx hb dL_isRefused_125 (by decide) ?_
    refine lv_iconst (v := 1) hx hb dL_isRefused_126 (by decide) ?_
    refine lv_iload hx hb dL_isRefused_127 (lv_at hl 4 rfl) ?_
    refine lv_iconst (v := 1) hx hb dL_isRefused_129 (by decide) ?_
    refine la_SW (As := [.ref (q 9), .int 0, .int 1, .int mch, .int 1]) (rest := []) (wr := [(qm, .inl (cI, 1, .inl (C)))]) ⟨hx, hb, hml, hown, hts⟩ (c_L_rule_sd l hfl D q F n R_104 cI cZ _ 1 mch 1 hw) (vx_cwSW 5 hts gL_isRefused_L_rule rfl rfl rfl (by decide +kernel) ⟨Nat.le_of_ble_eq_true rfl, Nat.le_of_ble_eq_true rfl⟩) hn9 htA hK hP hD hA [0, 1, 2, 3, 4, 5, 6, 7, 8, 9] [10] rfl rfl (by decide) rfl (by decide) (by decide) hS rfl hl.1 rfl (Nat.le_of_ble_eq_true rfl) dL_isRefused_130 ⟨Nat.le_of_ble_eq_true rfl, Nat.le_of_ble_eq_true rfl⟩ (fun r9 u9 H locs h_130 hP hD hS => ?_)
    obtain ⟨h9a, h9b⟩ := h_130.2 (thSD_1 (Or.inr (Or.inl ht)))
    subst h9a
    obtain rfl : F = u9 := h9b.symm
    have hP : va_P D vwCl (wX q F (nI n) R_104 cI cZ ++ [(qm, .inl (cI, 1, .inl (C)))]) H := hP.sub [1, 2, 3, 4, 5, 6, 7, 8, 9, 10, 0] rfl
    have hD : va_D A (wX q F (nI n) R_104 cI cZ ++ [(qm, .inl (cI, 1, .inl (C)))]) := hD.sub [1, 2, 3, 4, 5, 6, 7, 8, 9, 10, 0] (by decide) rfl
    refine lv_sipush (v := (-702)) hx hb dL_isRefused_133 (by decide) ?_
    refine lv_icmp_ne (x := (-702)) (y := (-702)) (tgt := 404) hx hb dL_isRefused_136 (by decide) (fun k => absurd (by decide) k) (fun _ => ?_)
    refine lv_aload_n hx hb dL_isRefused_139 rfl (lv_at hl 6 rfl) ?_
    refine lv_iconst (v := 0) hx hb dL_isRefused_140 (by decide) ?_
    refine lv_iconst (v := 1) hx hb dL_isRefused_141 (by decide) ?_
    refine lv_iconst (v := 2) hx hb dL_isRefused_142 (by decide) ?_
    refine lv_iload_n hx hb dL_isRefused_143 rfl (lv_at hl 5 rfl) ?_
    refine lv_if_eq (x := 1) (tgt := 151) hx hb dL_isRefused_144 (by decide) (fun k => absurd k (by decide)) (fun _ => ?_)
    refine lv_iconst (v := (-1)) hx hb dL_isRefused_147 (by decide) ?_
    refine lv_goto (tgt := 152) hx hb dL_isRefused_148 (by decide) ?_
    refine la_SW (As := [.ref (q 9), .int 0, .int 1, .int 2, .int (-1)]) (rest := []) (wr := [(qm, .inl (cI, 1, .inl (C)))]) ⟨hx, hb, hml, hown, hts⟩ (c_L_rule_sd l hfl D q F n R_104 cI cZ _ 1 2 (-1) hw) (vx_cwSW 5 hts gL_isRefused_L_rule rfl rfl rfl (by decide +kernel) ⟨Nat.le_of_ble_eq_true rfl, Nat.le_of_ble_eq_true rfl⟩) hn9 htA hK hP hD hA [0, 1, 2, 3, 4, 5, 6, 7, 8, 9] [10] rfl rfl (by decide) rfl (by decide) (by decide) hS rfl hl.1 rfl (Nat.le_of_ble_eq_true rfl) dL_isRefused_152 ⟨Nat.le_of_ble_eq_true rfl, Nat.le_of_ble_eq_true rfl⟩ (fun r9 u9 H locs h_152 hP hD hS => ?_)
    obtain ⟨h9a, h9b⟩ := h_152.2 (thSD_1 (Or.inr (Or.inr (by decide))))
    subst h9a
    obtain rfl : F = u9 := h9b.symm
    have hP : va_P D vwCl (wX q F (nI n) R_104 cI cZ ++ [(qm, .inl (cI, 1, .inl (C)))]) H := hP.sub [1, 2, 3, 4, 5, 6, 7, 8, 9, 10, 0] rfl
    have hD : va_D A (wX q F (nI n) R_104 cI cZ ++ [(qm, .inl (cI, 1, .inl (C)))]) := hD.sub [1, 2, 3, 4, 5, 6, 7, 8, 9, 10, 0] (by decide) rfl
    refine lv_sipush (v := (-702)) hx hb dL_isRefused_155 (by decide) ?_
    refine lv_icmp_ne (x := (-702)) (y := (-702)) (tgt := 404) hx hb dL_isRefused_158 (by decide) (fun k => absurd (by decide) k) (fun _ => ?_)
    refine lv_aload_n hx hb dL_isRefused_161 rfl (lv_at hl 6 rfl) ?_
    refine lv_iconst (v := 1) hx hb dL_isRefused_162 (by decide) ?_
    refine lv_iload hx hb dL_isRefused_163 (lv_at hl 4 rfl) ?_
    refine lv_iconst (v := 0) hx hb dL_isRefused_165 (by decide) ?_
    refine lv_iconst (v := 1) hx hb dL_isRefused_166 (by decide) ?_
    refine la_SW (As := [.ref (q 9), .int 1, .int mch, .int 0, .int 1]) (rest := []) (wr := [(qm, .inl (cI, 1, .inl (C)))]) ⟨hx, hb, hml, hown, hts⟩ (c_L_rule_bar1 l hfl D q F n R_104 cI cZ _ mch 0 hw) (vx_cwSW 5 hts gL_isRefused_L_rule rfl rfl rfl (by decide +kernel) ⟨Nat.le_of_ble_eq_true rfl, Nat.le_of_ble_eq_true rfl⟩) hn9 htA hK hP hD hA [0, 1, 2, 3, 4, 5, 6, 7, 8, 9] [10] rfl rfl (by decide) rfl (by decide) (by decide) hS rfl hl.1 rfl (Nat.le_of_ble_eq_true rfl) dL_isRefused_167 ⟨Nat.le_of_ble_eq_true rfl, Nat.le_of_ble_eq_true rfl⟩ (fun r9 u9 H locs h_167 hP hD hS => ?_)
    obtain ⟨h9a, h9b⟩ := h_167.2 (thBar_1 (Or.inl ht))
    subst h9a
    obtain rfl : F = u9 := h9b.symm
    have hP : va_P D vwCl (wX q F (nI n) R_104 cI cZ ++ [(qm, .inl (cI, 1, .inl (C)))]) H := hP.sub [1, 2, 3, 4, 5, 6, 7, 8, 9, 10, 0] rfl
    have hD : va_D A (wX q F (nI n) R_104 cI cZ ++ [(qm, .inl (cI, 1, .inl (C)))]) := hD.sub [1, 2, 3, 4, 5, 6, 7, 8, 9, 10, 0] (by decide) rfl
    refine lv_sipush (v := (-702)) hx hb dL_isRefused_170 (by decide) ?_
    refine lv_icmp_ne (x := (-702)) (y := (-702)) (tgt := 404) hx hb dL_isRefused_173 (by decide) (fun k => absurd (by decide) k) (fun _ => ?_)
    refine lv_aload_n hx hb dL_isRefused_176 rfl (lv_at hl 6 rfl) ?_
    refine lv_iconst (v := 1) hx hb dL_isRefused_177 (by decide) ?_
    refine lv_iconst (v := 1) hx hb dL_isRefused_178 (by decide) ?_
    refine lv_iload_n hx hb dL_isRefused_179 rfl (lv_at hl 5 rfl) ?_
    refine lv_if_eq (x := 1) (tgt := 187) hx hb dL_isRefused_180 (by decide) (fun k => absurd k (by decide)) (fun _ => ?_)
    refine lv_iconst (v := (-1)) hx hb dL_isRefused_183 (by decide) ?_
    refine lv_goto (tgt := 188) hx hb dL_isRefused_184 (by decide) ?_
    refine lv_iconst (v := 1) hx hb dL_isRefused_188 (by decide) ?_
    refine la_SW (As := [.ref (q 9), .int 1, .int 1, .int (-1), .int 1]) (rest := []) (wr := [(qm, .inl (cI, 1, .inl (C)))]) ⟨hx, hb, hml, hown, hts⟩ (c_L_rule_bar1 l hfl D q F n R_104 cI cZ _ 1 (-1) hw) (vx_cwSW 5 hts gL_isRefused_L_rule rfl rfl rfl (by decide +kernel) ⟨Nat.le_of_ble_eq_true rfl, Nat.le_of_ble_eq_true rfl⟩) hn9 htA hK hP hD hA [0, 1, 2, 3, 4, 5, 6, 7, 8, 9] [10] rfl rfl (by decide) rfl (by decide) (by decide) hS rfl hl.1 rfl (Nat.le_of_ble_eq_true rfl) dL_isRefused_189 ⟨Nat.le_of_ble_eq_true rfl, Nat.le_of_ble_eq_true rfl⟩ (fun r9 u9 H locs h_189 hP hD hS => ?_)
    obtain ⟨h9a, h9b⟩ := h_189.2 (thBar_1 (Or.inr (by decide)))
    subst h9a
    obtain rfl : F = u9 := h9b.symm
    have hP : va_P D vwCl (wX q F (nI n) R_104 cI cZ ++ [(qm, .inl (cI, 1, .inl (C)))]) H := hP.sub [1, 2, 3, 4, 5, 6, 7, 8, 9, 10, 0] rfl
    have hD : va_D A (wX q F (nI n) R_104 cI cZ ++ [(qm, .inl (cI, 1, .inl (C)))]) := hD.sub [1, 2, 3, 4, 5, 6, 7, 8, 9, 10, 0] (by decide) rfl
    refine lv_sipush (v := (-702)) hx hb dL_isRefused_192 (by decide) ?_
    refine lv_icmp_ne (x := (-702)) (y := (-702)) (tgt := 404) hx hb dL_isRefused_195 (by decide) (fun k => absurd (by decide) k) (fun _ => ?_)
    refine lv_aload_n hx hb dL_isRefused_198 rfl (lv_at hl 6 rfl) ?_
    refine lv_iconst (v := 2) hx hb dL_isRefused_199 (by decide) ?_
    refine lv_iload hx hb dL_isRefused_200 (lv_at hl 2 rfl) ?_
    refine lv_iconst (v := 0) hx hb dL_isRefused_202 (by decide) ?_
    refine lv_iconst (v := 0) hx hb dL_isRefused_203 (by decide) ?_
    refine la_SW (As := [.ref (q 9), .int 2, .int plc, .int 0, .int 0]) (rest := []) (wr := [(qm, .inl (cI, 1, .inl (C)))]) ⟨hx, hb, hml, hown, hts⟩ (c_L_rule_d l hfl D q F n R_104 cI cZ _ plc 0 hw) (vx_cwSW 5 hts gL_isRefused_L_rule rfl rfl rfl (by decide +kernel) ⟨Nat.le_of_ble_eq_true rfl, Nat.le_of_ble_eq_true rfl⟩) hn9 htA hK hP hD hA [0, 1, 2, 3, 4, 5, 6, 7, 8, 9] [10] rfl rfl (by decide) rfl (by decide) (by decide) hS rfl hl.1 rfl (Nat.le_of_ble_eq_true rfl) dL_isRefused_204 ⟨Nat.le_of_ble_eq_true rfl, Nat.le_of_ble_eq_true rfl⟩ (fun r9 u9 H locs h_204 hP hD hS => ?_)
    obtain rfl := h_204.2 (thD_1 (Or.inl hp))
    have hP : va_P D vwCl (wX q F (nI n) R_104 cI cZ ++ [(qm, .inl (cI, 1, .inl (C)))]) H := hP.sub [1, 2, 3, 4, 5, 6, 7, 8, 9, 10, 0] rfl
    have hD : va_D A (wX q F (nI n) R_104 cI cZ ++ [(qm, .inl (cI, 1, .inl (C)))]) := hD.sub [1, 2, 3, 4, 5, 6, 7, 8, 9, 10, 0] (by decide) rfl
    refine lv_sipush (v := (-702)) hx hb dL_isRefused_207 (by decide) ?_
    refine lv_icmp_ne (x := (-702)) (y := (-702)) (tgt := 404) hx hb dL_isRefused_210 (by decide) (fun k => absurd (by decide) k) (fun _ => ?_)
    refine lv_aload_n hx hb dL_isRefused_213 rfl (lv_at hl 6 rfl) ?_
    refine lv_iconst (v := 2) hx hb dL_isRefused_214 (by decide) ?_
    refine lv_iconst (v := 0) hx hb dL_isRefused_215 (by decide) ?_
    refine lv_iload hx hb dL_isRefused_216 (lv_at hl 2 rfl) ?_
    refine lv_iconst (v := 0) hx hb dL_isRefused_218 (by decide) ?_
    refine la_SW (As := [.ref (q 9), .int 2, .int 0, .int plc, .int 0]) (rest := []) (wr := [(qm, .inl (cI, 1, .inl (C)))]) ⟨hx, hb, hml, hown, hts⟩ (c_L_rule_d l hfl D q F n R_104 cI cZ _ 0 plc hw) (vx_cwSW 5 hts gL_isRefused_L_rule rfl rfl rfl (by decide +kernel) ⟨Nat.le_of_ble_eq_true rfl, Nat.le_of_ble_eq_true rfl⟩) hn9 htA hK hP hD hA [0, 1, 2, 3, 4, 5, 6, 7, 8, 9] [10] rfl rfl (by decide) rfl (by decide) (by decide) hS rfl hl.1 rfl (Nat.le_of_ble_eq_true rfl) dL_isRefused_219 ⟨Nat.le_of_ble_eq_true rfl, Nat.le_of_ble_eq_true rfl⟩ (fun r9 u9 H locs h_219 hP hD hS => ?_)
    obtain rfl := h_219.2 (thD_1 (Or.inr hp))
    have hP : va_P D vwCl (wX q F (nI n) R_104 cI cZ ++ [(qm, .inl (cI, 1, .inl (C)))]) H := hP.sub [1, 2, 3, 4, 5, 6, 7, 8, 9, 10, 0] rfl
    have hD : va_D A (wX q F (nI n) R_104 cI cZ ++ [(qm, .inl (cI, 1, .inl (C)))]) := hD.sub [1, 2, 3, 4, 5, 6, 7, 8, 9, 10, 0] (by decide) rfl
    refine lv_sipush (v := (-702)) hx hb dL_isRefused_222 (by decide) ?_
    refine lv_icmp_ne (x := (-702)) (y := (-702)) (tgt := 404) hx hb dL_isRefused_225 (by decide) (fun k => absurd (by decide) k) (fun _ => ?_)
    refine lv_aload_n hx hb dL_isRefused_228 rfl (lv_at hl 6 rfl) ?_
    refine lv_iconst (v := 2) hx hb dL_isRefused_229 (by decide) ?_
    refine lv_iconst (v := (-1)) hx hb dL_isRefused_230 (by decide) ?_
    refine lv_iconst (v := 5) hx hb dL_isRefused_231 (by decide) ?_
    refine lv_iconst (v := 0) hx hb dL_isRefused_232 (by decide) ?_
    refine la_SW (As := [.ref (q 9), .int 2, .int (-1), .int 5, .int 0]) (rest := []) (wr := [(qm, .inl (cI, 1, .inl (C)))]) ⟨hx, hb, hml, hown, hts⟩ (c_L_rule_d l hfl D q F n R_104 cI cZ _ (-1) 5 hw) (vx_cwSW 5 hts gL_isRefused_L_rule rfl rfl rfl (by decide +kernel) ⟨Nat.le_of_ble_eq_true rfl, Nat.le_of_ble_eq_true rfl⟩) hn9 htA hK hP hD hA [0, 1, 2, 3, 4, 5, 6, 7, 8, 9] [10] rfl rfl (by decide) rfl (by decide) (by decide) hS rfl hl.1 rfl (Nat.le_of_ble_eq_true rfl) dL_isRefused_233 ⟨Nat.le_of_ble_eq_true rfl, Nat.le_of_ble_eq_true rfl⟩ (fun r9 u9 H locs h_233 hP hD hS => ?_)
    obtain rfl := h_233.2 (thD_1 (Or.inl (by decide)))
    have hP : va_P D vwCl (wX q F (nI n) R_104 cI cZ ++ [(qm, .inl (cI, 1, .inl (C)))]) H := hP.sub [1, 2, 3, 4, 5, 6, 7, 8, 9, 10, 0] rfl
    have hD : va_D A (wX q F (nI n) R_104 cI cZ ++ [(qm, .inl (cI, 1, .inl (C)))]) := hD.sub [1, 2, 3, 4, 5, 6, 7, 8, 9, 10, 0] (by decide) rfl
    refine lv_sipush (v := (-702)) hx hb dL_isRefused_236 (by decide) ?_
    refine lv_icmp_ne (x := (-702)) (y := (-702)) (tgt := 404) hx hb dL_isRefused_239 (by decide) (fun k => absurd (by decide) k) (fun _ => ?_)
    refine lv_aload_n hx hb dL_isRefused_242 rfl (lv_at hl 6 rfl) ?_
    refine lv_iconst (v := 3) hx hb dL_isRefused_243 (by decide) ?_
    refine lv_iload hx hb dL_isRefused_244 (lv_at hl 4 rfl) ?_
    refine lv_iconst (v := (-1)) hx hb dL_isRefused_246 (by decide) ?_
    refine lv_iconst (v := 5) hx hb dL_isRefused_247 (by decide) ?_
    refine la_SW (As := [.ref (q 9), .int 3, .int mch, .int (-1), .int 5]) (rest := []) (wr := [(qm, .inl (cI, 1, .inl (C)))]) ⟨hx, hb, hml, hown, hts⟩ (c_L_rule_add l hfl D q F n R_104 cI cZ _ mch (-1) 5 hw) (vx_cwSW 5 hts gL_isRefused_L_rule rfl rfl rfl (by decide +kernel) ⟨Nat.le_of_ble_eq_true rfl, Nat.le_of_ble_eq_true rfl⟩) hn9 htA hK hP hD hA [0, 1, 2, 3, 4, 5, 6, 7, 8, 9] [10] rfl rfl (by decide) rfl (by decide) (by decide) hS rfl hl.1 rfl (Nat.le_of_ble_eq_true rfl) dL_isRefused_248 ⟨Nat.le_of_ble_eq_true rfl, Nat.le_of_ble_eq_true rfl⟩ (fun r9 u9 H locs h_248 hP hD hS => ?_)
    obtain ⟨F8, n8⟩ := u9
    obtain ⟨h9a, h9b, h9c⟩ := h_248.2.1 (thAdd_1 (Or.inl ht))
    subst h9a
    obtain rfl : F = F8 := h9b.symm
    obtain rfl : n = n8 := h9c.symm
    have hP : va_P D vwCl (wX q F (nI n) R_104 cI cZ ++ [(qm, .inl (cI, 1, .inl (C)))]) H := hP.sub [1, 2, 3, 4, 5, 6, 7, 8, 9, 10, 0] rfl
    have hD : va_D A (wX q F (nI n) R_104 cI cZ ++ [(qm, .inl (cI, 1, .inl (C)))]) := hD.sub [1, 2, 3, 4, 5, 6, 7, 8, 9, 10, 0] (by decide) rfl
    refine lv_sipush (v := (-702)) hx hb dL_isRefused_251 (by decide) ?_
    refine lv_icmp_ne (x := (-702)) (y := (-702)) (tgt := 404) hx hb dL_isRefused_254 (by decide) (fun k => absurd (by decide) k) (fun _ => ?_)
    refine lv_aload_n hx hb dL_isRefused_257 rfl (lv_at hl 6 rfl) ?_
    refine lv_iconst (v := 3) hx hb dL_isRefused_258 (by decide) ?_
    refine lv_iconst (v := 1) hx hb dL_isRefused_259 (by decide) ?_
    refine lv_iload_n hx hb dL_isRefused_260 rfl (lv_at hl 5 rfl) ?_
    refine lv_if_eq (x := 1) (tgt := 268) hx hb dL_isRefused_261 (by decide) (fun k => absurd k (by decide)) (fun _ => ?_)
    refine lv_iconst (v := 0) hx hb dL_isRefused_264 (by decide) ?_
    refine lv_goto (tgt := 270) hx hb dL_isRefused_265 (by decide) ?_
    refine lv_iconst (v := 5) hx hb dL_isRefused_270 (by decide) ?_
    refine la_SW (As := [.ref (q 9), .int 3, .int 1, .int 0, .int 5]) (rest := []) (wr := [(qm, .inl (cI, 1, .inl (C)))]) ⟨hx, hb, hml, hown, hts⟩ (c_L_rule_add l hfl D q F n R_104 cI cZ _ 1 0 5 hw) (vx_cwSW 5 hts gL_isRefused_L_rule rfl rfl rfl (by decide +kernel) ⟨Nat.le_of_ble_eq_true rfl, Nat.le_of_ble_eq_true rfl⟩) hn9 htA hK hP hD hA [0, 1, 2, 3, 4, 5, 6, 7, 8, 9] [10] rfl rfl (by decide) rfl (by decide) (by decide) hS rfl hl.1 rfl (Nat.le_of_ble_eq_true rfl) dL_isRefused_271 ⟨Nat.le_of_ble_eq_true rfl, Nat.le_of_ble_eq_true rfl⟩ (fun r9 u9 H locs h_271 hP hD hS => ?_)
    obtain ⟨F8, n8⟩ := u9
    obtain ⟨h9a, h9b, h9c⟩ := h_271.2.1 (thAdd_1 (Or.inr (Or.inl (by decide))))
    subst h9a
    obtain rfl : F = F8 := h9b.symm
    obtain rfl : n = n8 := h9c.symm
    have hP : va_P D vwCl (wX q F (nI n) R_104 cI cZ ++ [(qm, .inl (cI, 1, .inl (C)))]) H := hP.sub [1, 2, 3, 4, 5, 6, 7, 8, 9, 10, 0] rfl
    have hD : va_D A (wX q F (nI n) R_104 cI cZ ++ [(qm, .inl (cI, 1, .inl (C)))]) := hD.sub [1, 2, 3, 4, 5, 6, 7, 8, 9, 10, 0] (by decide) rfl
    refine lv_sipush (v := (-702)) hx hb dL_isRefused_274 (by decide) ?_
    refine lv_icmp_ne (x := (-702)) (y := (-702)) (tgt := 404) hx hb dL_isRefused_277 (by decide) (fun k => absurd (by decide) k) (fun _ => ?_)
    refine lv_aload_n hx hb dL_isRefused_280 rfl (lv_at hl 6 rfl) ?_
    refine lv_iconst (v := 3) hx hb dL_isRefused_281 (by decide) ?_
    refine lv_iconst (v := 1) hx hb dL_isRefused_282 (by decide) ?_
    refine lv_iload_n hx hb dL_isRefused_283 rfl (lv_at hl 8 rfl) ?_
    refine lv_bipush (v := 9) hx hb dL_isRefused_284 (by decide) ?_
    refine lv_irem hx hb (x := (nI x)) (y := 9) dL_isRefused_286 (by decide) ?_
    refine W.eq (g2 := F0 m9 287 ls (.int (nI (x % 9)) :: [.int 1, .int 3, .ref (q 9)])) (congrArg (fun z => F0 m9 287 ls (Value.int z :: [.int 1, .int 3, .ref (q 9)])) (pk_rem (a := x) (d := 9) (by omega) (by omega) (by omega))) ?_
    refine lv_iadd hx hb (x := 1) (y := (nI (x % 9))) dL_isRefused_287 ?_
    refine W.eq (g2 := F0 m9 288 ls (.int (nI (1 + (x % 9))) :: [.int 3, .ref (q 9)])) (congrArg (fun z => F0 m9 288 ls (Value.int z :: [.int 3, .ref (q 9)])) (nI_add 1 (x % 9))) ?_
    refine lv_iconst (v := 1) hx hb dL_isRefused_288 (by decide) ?_
    refine lv_iload_n hx hb dL_isRefused_289 rfl (lv_at hl 8 rfl) ?_
    refine lv_bipush (v := 9) hx hb dL_isRefused_290 (by decide) ?_
    refine lv_irem hx hb (x := (nI x)) (y := 9) dL_isRefused_292 (by decide) ?_
    refine W.eq (g2 := F0 m9 293 ls (.int (nI (x % 9)) :: [.int 1, .int (nI (1 + (x % 9))), .int 3, .ref (q 9)])) (congrArg (fun z => F0 m9 293 ls (Value.int z :: [.int 1, .int (nI (1 + (x % 9))), .int 3, .ref (q 9)])) (pk_rem (a := x) (d := 9) (by omega) (by omega) (by omega))) ?_
    refine lv_iadd hx hb (x := 1) (y := (nI (x % 9))) dL_isRefused_293 ?_
    refine W.eq (g2 := F0 m9 294 ls (.int (nI (1 + (x % 9))) :: [.int (nI (1 + (x % 9))), .int 3, .ref (q 9)])) (congrArg (fun z => F0 m9 294 ls (Value.int z :: [.int (nI (1 + (x % 9))), .int 3, .ref (q 9)])) (nI_add 1 (x % 9))) ?_
    refine lv_iconst (v := 5) hx hb dL_isRefused_294 (by decide) ?_
    refine la_SW (As := [.ref (q 9), .int 3, .int (nI (1 + (x % 9))), .int (nI (1 + (x % 9))), .int 5]) (rest := []) (wr := [(qm, .inl (cI, 1, .inl (C)))]) ⟨hx, hb, hml, hown, hts⟩ (c_L_rule_add l hfl D q F n R_104 cI cZ _ (nI (1 + (x % 9))) (nI (1 + (x % 9))) 5 hw) (vx_cwSW 5 hts gL_isRefused_L_rule rfl rfl rfl (by decide +kernel) ⟨Nat.le_of_ble_eq_true rfl, Nat.le_of_ble_eq_true rfl⟩) hn9 htA hK hP hD hA [0, 1, 2, 3, 4, 5, 6, 7, 8, 9] [10] rfl rfl (by decide) rfl (by decide) (by decide) hS rfl hl.1 rfl (Nat.le_of_ble_eq_true rfl) dL_isRefused_295 ⟨Nat.le_of_ble_eq_true rfl, Nat.le_of_ble_eq_true rfl⟩ (fun r9 u9 H locs h_295 hP hD hS => ?_)
    obtain ⟨F8, n8⟩ := u9
    obtain ⟨h9a, h9b, h9c⟩ := h_295.2.1 (thAdd_1 (Or.inr (Or.inl (subOk_same (nI_ne_m1 (by omega))))))
    subst h9a
    obtain rfl : F = F8 := h9b.symm
    obtain rfl : n = n8 := h9c.symm
    have hP : va_P D vwCl (wX q F (nI n) R_104 cI cZ ++ [(qm, .inl (cI, 1, .inl (C)))]) H := hP.sub [1, 2, 3, 4, 5, 6, 7, 8, 9, 10, 0] rfl
    have hD : va_D A (wX q F (nI n) R_104 cI cZ ++ [(qm, .inl (cI, 1, .inl (C)))]) := hD.sub [1, 2, 3, 4, 5, 6, 7, 8, 9, 10, 0] (by decide) rfl
    refine lv_sipush (v := (-702)) hx hb dL_isRefused_298 (by decide) ?_
    refine lv_icmp_ne (x := (-702)) (y := (-702)) (tgt := 404) hx hb dL_isRefused_301 (by decide) (fun k => absurd (by decide) k) (fun _ => ?_)
    refine lv_aload_n hx hb dL_isRefused_304 rfl (lv_at hl 6 rfl) ?_
    refine lv_iconst (v := 3) hx hb dL_isRefused_305 (by decide) ?_
    refine lv_iconst (v := 1) hx hb dL_isRefused_306 (by decide) ?_
    refine lv_iconst (v := (-1)) hx hb dL_isRefused_307 (by decide) ?_
    refine lv_iload hx hb dL_isRefused_308 (lv_at hl 1 rfl) ?_
    refine la_SW (As := [.ref (q 9), .int 3, .int 1, .int (-1), .int mch]) (rest := []) (wr := [(qm, .inl (cI, 1, .inl (C)))]) ⟨hx, hb, hml, hown, hts⟩ (c_L_rule_add l hfl D q F n R_104 cI cZ _ 1 (-1) mch hw) (vx_cwSW 5 hts gL_isRefused_L_rule rfl rfl rfl (by decide +kernel) ⟨Nat.le_of_ble_eq_true rfl, Nat.le_of_ble_eq_true rfl⟩) hn9 htA hK hP hD hA [0, 1, 2, 3, 4, 5, 6, 7, 8, 9] [10] rfl rfl (by decide) rfl (by decide) (by decide) hS rfl hl.1 rfl (Nat.le_of_ble_eq_true rfl) dL_isRefused_310 ⟨Nat.le_of_ble_eq_true rfl, Nat.le_of_ble_eq_true rfl⟩ (fun r9 u9 H locs h_310 hP hD hS => ?_)
    obtain ⟨F8, n8⟩ := u9
    obtain ⟨h9a, h9b, h9c⟩ := h_310.2.1 (thAdd_1 (Or.inr (Or.inr hq)))
    subst h9a
    obtain rfl : F = F8 := h9b.symm
    obtain rfl : n = n8 := h9c.symm
    have hP : va_P D vwCl (wX q F (nI n) R_104 cI cZ ++ [(qm, .inl (cI, 1, .inl (C)))]) H := hP.sub [1, 2, 3, 4, 5, 6, 7, 8, 9, 10, 0] rfl
    have hD : va_D A (wX q F (nI n) R_104 cI cZ ++ [(qm, .inl (cI, 1, .inl (C)))]) := hD.sub [1, 2, 3, 4, 5, 6, 7, 8, 9, 10, 0] (by decide) rfl
    refine lv_sipush (v := (-702)) hx hb dL_isRefused_313 (by decide) ?_
    refine lv_icmp_ne (x := (-702)) (y := (-702)) (tgt := 404) hx hb dL_isRefused_316 (by decide) (fun k => absurd (by decide) k) (fun _ => ?_)
    refine lv_aload_n hx hb dL_isRefused_319 rfl (lv_at hl 7 rfl) ?_
    refine lv_iconst (v := 0) hx hb dL_isRefused_320 (by decide) ?_
    refine xiald (g := 0) hx hb hK hP 10 0 rfl rfl (by omega) (by decide) dL_isRefused_321 ?_
    refine W.eq (g2 := F0 m9 322 ls (.int (nI n) :: [])) (congrArg (fun z => F0 m9 322 ls (Value.int z :: [])) (hm)) ?_
    refine lv_bipush (v := 16) hx hb dL_isRefused_322 (by decide) ?_
    refine lv_icmp_lt (x := (nI n)) (y := 16) (tgt := 341) hx hb dL_isRefused_324 (by decide) (fun c_324 => ?_) (fun k => (k (show nI n < nI 16 from nI_lt (by omega) (by decide)) : False).elim)
    refine lv_aload_n hx hb dL_isRefused_341 rfl (lv_at hl 6 rfl) ?_
    refine lv_iload hx hb dL_isRefused_342 (lv_at hl 4 rfl) ?_
    refine lv_iconst (v := 5) hx hb dL_isRefused_344 (by decide) ?_
    refine lv_iconst (v := 5) hx hb dL_isRefused_345 (by decide) ?_
    refine la_SW (As := [.ref (q 9), .int mch, .int 5, .int 5]) (rest := []) (wr := [(qm, .inl (cI, 1, .inl (C)))]) ⟨hx, hb, hml, hown, hts⟩ (c_L_setQuantities l hfl D q F n R_104 cI cZ _ mch 5 5 hw) (vx_cwSW 4 hts gL_isRefused_L_setQuantities rfl rfl rfl (by decide +kernel) ⟨Nat.le_of_ble_eq_true rfl, Nat.le_of_ble_eq_true rfl⟩) hn9 htA hK hP hD hA [0, 1, 2, 3, 4, 5, 6, 7, 8, 9] [10] rfl rfl (by decide) rfl (by decide) (by decide) hS rfl hl.1 rfl (Nat.le_of_ble_eq_true rfl) dL_isRefused_346 ⟨Nat.le_of_ble_eq_true rfl, Nat.le_of_ble_eq_true rfl⟩ (fun r9 u9 H locs h_346 hP hD hS => ?_)
    obtain ⟨h9a, h9b⟩ := h_346.2 (thSQ_1 (Or.inl ht))
    subst h9a
    obtain rfl : F = u9 := h9b.symm
    have hP : va_P D vwCl (wX q F (nI n) R_104 cI cZ ++ [(qm, .inl (cI, 1, .inl (C)))]) H := hP.sub [1, 2, 3, 4, 5, 6, 7, 8, 9, 10, 0] rfl
    have hD : va_D A (wX q F (nI n) R_104 cI cZ ++ [(qm, .inl (cI, 1, .inl (C)))]) := hD.sub [1, 2, 3, 4, 5, 6, 7, 8, 9, 10, 0] (by decide) rfl
    refine lv_sipush (v := (-702)) hx hb dL_isRefused_349 (by decide) ?_
    refine lv_icmp_ne (x := (-702)) (y := (-702)) (tgt := 404) hx hb dL_isRefused_352 (by decide) (fun k => absurd (by decide) k) (fun _ => ?_)
    refine lv_aload_n hx hb dL_isRefused_355 rfl (lv_at hl 6 rfl) ?_
    refine lv_iconst (v := 1) hx hb dL_isRefused_356 (by decide) ?_
    refine lv_iload_n hx hb dL_isRefused_357 rfl (lv_at hl 5 rfl) ?_
    refine lv_if_eq (x := 1) (tgt := 365) hx hb dL_isRefused_358 (by decide) (fun k => absurd k (by decide)) (fun _ => ?_)
    refine lv_iconst (v := (-1)) hx hb dL_isRefused_361 (by decide) ?_
    refine lv_goto (tgt := 368) hx hb dL_isRefused_362 (by decide) ?_
    refine lv_iconst (v := 0) hx hb dL_isRefused_368 (by decide) ?_
    refine la_SW (As := [.ref (q 9), .int 1, .int (-1), .int 0]) (rest := []) (wr := [(qm, .inl (cI, 1, .inl (C)))]) ⟨hx, hb, hml, hown, hts⟩ (c_L_setQuantities l hfl D q F n R_104 cI cZ _ 1 (-1) 0 hw) (vx_cwSW 4 hts gL_isRefused_L_setQuantities rfl rfl rfl (by decide +kernel) ⟨Nat.le_of_ble_eq_true rfl, Nat.le_of_ble_eq_true rfl⟩) hn9 htA hK hP hD hA [0, 1, 2, 3, 4, 5, 6, 7, 8, 9] [10] rfl rfl (by decide) rfl (by decide) (by decide) hS rfl hl.1 rfl (Nat.le_of_ble_eq_true rfl) dL_isRefused_369 ⟨Nat.le_of_ble_eq_true rfl, Nat.le_of_ble_eq_true rfl⟩ (fun r9 u9 H locs h_369 hP hD hS => ?_)
    obtain ⟨h9a, h9b⟩ := h_369.2 (thSQ_1 (Or.inr (Or.inl (by decide))))
    subst h9a
    obtain rfl : F = u9 := h9b.symm
    have hP : va_P D vwCl (wX q F (nI n) R_104 cI cZ ++ [(qm, .inl (cI, 1, .inl (C)))]) H := hP.sub [1, 2, 3, 4, 5, 6, 7, 8, 9, 10, 0] rfl
    have hD : va_D A (wX q F (nI n) R_104 cI cZ ++ [(qm, .inl (cI, 1, .inl (C)))]) := hD.sub [1, 2, 3, 4, 5, 6, 7, 8, 9, 10, 0] (by decide) rfl
    refine lv_sipush (v := (-702)) hx hb dL_isRefused_372 (by decide) ?_
    refine lv_icmp_ne (x := (-702)) (y := (-702)) (tgt := 404) hx hb dL_isRefused_375 (by decide) (fun k => absurd (by decide) k) (fun _ => ?_)
    refine lv_aload_n hx hb dL_isRefused_378 rfl (lv_at hl 6 rfl) ?_
    refine lv_iconst (v := 1) hx hb dL_isRefused_379 (by decide) ?_
    refine lv_iconst (v := 5) hx hb dL_isRefused_380 (by decide) ?_
    refine lv_iload_n hx hb dL_isRefused_381 rfl (lv_at hl 5 rfl) ?_
    refine lv_if_eq (x := 1) (tgt := 389) hx hb dL_isRefused_382 (by decide) (fun k => absurd k (by decide)) (fun _ => ?_)
    refine lv_iconst (v := (-1)) hx hb dL_isRefused_385 (by decide) ?_
    refine lv_goto (tgt := 391) hx hb dL_isRefused_386 (by decide) ?_
    refine la_SW (As := [.ref (q 9), .int 1, .int 5, .int (-1)]) (rest := []) (wr := [(qm, .inl (cI, 1, .inl (C)))]) ⟨hx, hb, hml, hown, hts⟩ (c_L_setQuantities l hfl D q F n R_104 cI cZ _ 1 5 (-1) hw) (vx_cwSW 4 hts gL_isRefused_L_setQuantities rfl rfl rfl (by decide +kernel) ⟨Nat.le_of_ble_eq_true rfl, Nat.le_of_ble_eq_true rfl⟩) hn9 htA hK hP hD hA [0, 1, 2, 3, 4, 5, 6, 7, 8, 9] [10] rfl rfl (by decide) rfl (by decide) (by decide) hS rfl hl.1 rfl (Nat.le_of_ble_eq_true rfl) dL_isRefused_391 ⟨Nat.le_of_ble_eq_true rfl, Nat.le_of_ble_eq_true rfl⟩ (fun r9 u9 H locs h_391 hP hD hS => ?_)
    obtain ⟨h9a, h9b⟩ := h_391.2 (thSQ_1 (Or.inr (Or.inr (by decide))))
    subst h9a
    obtain rfl : F = u9 := h9b.symm
    have hP : va_P D vwCl (wX q F (nI n) R_104 cI cZ ++ [(qm, .inl (cI, 1, .inl (C)))]) H := hP.sub [1, 2, 3, 4, 5, 6, 7, 8, 9, 10, 0] rfl
    have hD : va_D A (wX q F (nI n) R_104 cI cZ ++ [(qm, .inl (cI, 1, .inl (C)))]) := hD.sub [1, 2, 3, 4, 5, 6, 7, 8, 9, 10, 0] (by decide) rfl
    refine lv_sipush (v := (-702)) hx hb dL_isRefused_394 (by decide) ?_
    refine lv_icmp_ne (x := (-702)) (y := (-702)) (tgt := 404) hx hb dL_isRefused_397 (by decide) (fun k => absurd (by decide) k) (fun _ => ?_)
    refine lv_iconst (v := 1) hx hb dL_isRefused_400 (by decide) ?_
    refine lv_goto (tgt := 405) hx hb dL_isRefused_401 (by decide) ?_
    refine lv_istore (lv' := [(10, .int 1), (8, .long (bH F n (n * n))), (7, .int mch), (6, .int plc), (5, .int non), (4, .int mch), (3, .int 1), (0, .ref (q 9)), (1, .ref qm), (2, .int (nI x))]) hx hb dL_isRefused_405 hl (by decide) rfl (fun ls hl => ?_)
    refine lv_iconst (v := 0) hx hb dL_isRefused_407 (by decide) ?_
    refine lv_istore (lv' := [(11, .int 0), (10, .int 1), (8, .long (bH F n (n * n))), (7, .int mch), (6, .int plc), (5, .int non), (4, .int mch), (3, .int 1), (0, .ref (q 9)), (1, .ref qm), (2, .int (nI x))]) hx hb dL_isRefused_408 hl (by decide) rfl (fun ls hl => ?_)
    have L410 : ∀ (d9 : Nat) (w1 : Nat) (H : Heap) (locs : List Loc) (ls : Array Slot), 11 - w1 < d9 → (w1 ≤ 11) → va_P D vwCl (wX q F (nI n) R_104 cI cZ ++ [(qm, .inl (cI, 1, .inl (C)))]) H → va_D A (wX q F (nI n) R_104 cI cZ ++ [(qm, .inl (cI, 1, .inl (C)))]) → va_S A s.heap H locs → lv_has ls 12 [(11, .int (nI w1)), (10, .int 1), (0, .ref (q 9)), (1, .ref qm), (2, .int (nI x)), (4, .int mch), (5, .int non), (6, .int plc), (7, .int mch), (8, .long (bH F n (n * n)))] → W p9 l e9 ({ frames := 21, cells := 300, slots := 1800, locals := 866 }) s m9 a9 below meth c9 H locs (48 + 3 * w1) (288 + 18 * w1) (MQ below (va_Qi (fun (r : Int32) (u : Nat → Int32) => r = 1) (wB D A (fun (u : Nat → Int32) => wC q F (nI n) u cI cZ qm C)) A) a9 s 300 1800 A) (F0 m9 410 ls []) := by
      intro d9
      induction d9 with
      | zero => intro w1 H locs ls h9; exact absurd h9 (Nat.not_lt_zero _)
      | succ d9 ih410 =>
        intro w1 H locs ls hd410 hk1 hP hD hS hl
        refine lv_iload hx hb dL_isRefused_410 (lv_at hl 0 rfl) ?_
        refine lv_bipush (v := 11) hx hb dL_isRefused_412 (by decide) ?_
        refine lv_icmp_ge (x := (nI w1)) (y := 11) (tgt := 451) hx hb dL_isRefused_414 (by decide) (fun c_414 => ?_) (fun c_414 => ?_)
        · have c_414 := nl_ge (k := w1) (n := 11) c_414 (by omega) (by omega)
          refine lv_iconst (v := 0) hx hb dL_isRefused_451 (by decide) ?_
          refine lv_istore (lv' := [(11, .int 0), (10, .int 1), (0, .ref (q 9)), (1, .ref qm), (2, .int (nI x)), (4, .int mch), (5, .int non), (6, .int plc), (7, .int mch), (8, .long (bH F n (n * n)))]) hx hb dL_isRefused_452 hl (by decide) rfl (fun ls hl => ?_)
          have L454 : ∀ (d9 : Nat) (g : Nat) (H : Heap) (locs : List Loc) (ls : Array Slot), n - g < d9 → (g ≤ n) → va_P D vwCl (wX q F (nI n) R_104 cI cZ ++ [(qm, .inl (cI, 1, .inl (C)))]) H → va_D A (wX q F (nI n) R_104 cI cZ ++ [(qm, .inl (cI, 1, .inl (C)))]) → va_S A s.heap H locs → lv_has ls 12 [(11, .int (nI g)), (10, .int 1), (0, .ref (q 9)), (1, .ref qm), (2, .int (nI x)), (4, .int mch), (5, .int non), (6, .int plc), (7, .int mch), (8, .long (bH F n (n * n)))] → W p9 l e9 ({ frames := 21, cells := 300, slots := 1800, locals := 866 }) s m9 a9 below meth c9 H locs (81 + 20 * g) (486 + 120 * g) (MQ below (va_Qi (fun (r : Int32) (u : Nat → Int32) => r = 1) (wB D A (fun (u : Nat → Int32) => wC q F (nI n) u cI cZ qm C)) A) a9 s 300 1800 A) (F0 m9 454 ls []) := by
            intro d9
            induction d9 with
            | zero => intro g H locs ls h9; exact absurd h9 (Nat.not_lt_zero _)
            | succ d9 ih454 =>
              intro g H locs ls hd454 hk2 hP hD hS hl
              refine lv_iload hx hb dL_isRefused_454 (lv_at hl 0 rfl) ?_
              refine lv_aload_n hx hb dL_isRefused_456 rfl (lv_at hl 3 rfl) ?_
              refine lv_iconst (v := 0) hx hb dL_isRefused_457 (by decide) ?_
              refine xiald (g := 0) hx hb hK hP 10 0 rfl rfl (by omega) (by decide) dL_isRefused_458 ?_
              refine W.eq (g2 := F0 m9 459 ls (.int (nI n) :: [.int (nI g)])) (congrArg (fun z => F0 m9 459 ls (Value.int z :: [.int (nI g)])) (hm)) ?_
              refine lv_icmp_ge (x := (nI g)) (y := (nI n)) (tgt := 603) hx hb dL_isRefused_459 (by decide) (fun c_459 => ?_) (fun c_459 => ?_)
              · have c_459 := nl_ge (k := g) (n := n) c_459 (by omega) (by omega)
                refine lv_iload hx hb dL_isRefused_603 (lv_at hl 1 rfl) ?_
                refine lv_if_eq (x := 1) (tgt := 622) hx hb dL_isRefused_605 (by decide) (fun k => absurd k (by decide)) (fun _ => ?_)
                refine lv_aload_n hx hb dL_isRefused_608 rfl (lv_at hl 2 rfl) ?_
                refine wr_Sl (As := [.ref (q 9)]) (rest := []) (wr := [(qm, .inl (cI, 1, .inl (C)))]) ⟨hx, hb, hml, hown, hts⟩ (c_L_all l D q F n R_104 cI cZ _ hw) (va_cwS 1 hts gL_isRefused_L_all rfl rfl rfl (by decide +kernel) ⟨Nat.le_of_ble_eq_true rfl, Nat.le_of_ble_eq_true rfl⟩) hK hP hD hA [0, 1, 2, 3, 4, 5, 6, 7, 8, 9] [10] rfl rfl (by decide) rfl (by decide) (by decide) hS rfl hl.1 rfl (Nat.le_of_ble_eq_true rfl) dL_isRefused_609 ⟨by show _ ≤ 300; omega, by show _ ≤ 1800; omega⟩ (fun r9 R_609 H locs h_609 hP hD hS => ?_)
                obtain rfl := h_609
                have hP : va_P D vwCl (wX q F (nI n) R_609 cI cZ ++ [(qm, .inl (cI, 1, .inl (C)))]) H := hP.sub [1, 2, 3, 4, 5, 6, 7, 8, 9, 10, 0] rfl
                have hD : va_D A (wX q F (nI n) R_609 cI cZ ++ [(qm, .inl (cI, 1, .inl (C)))]) := hD.sub [1, 2, 3, 4, 5, 6, 7, 8, 9, 10, 0] (by decide) rfl
                refine lv_lload hx hb dL_isRefused_612 (lv_at hl 9 rfl) ?_
                refine W.lcmp hx hb dL_isRefused_614 ?_
                refine W.eq (g2 := F0 m9 615 ls (.int 0 :: [])) (congrArg (fun z => F0 m9 615 ls (Value.int z :: [])) (lg_eq rfl)) ?_
                refine lv_if_ne (x := 0) (tgt := 622) hx hb dL_isRefused_615 (by decide) (fun k => absurd (by decide) k) (fun _ => ?_)
                refine lv_iconst (v := 1) hx hb dL_isRefused_618 (by decide) ?_
                refine lv_goto (tgt := 623) hx hb dL_isRefused_619 (by decide) ?_
                refine W.widen (k := 300) (n := 1800) (by omega) (by omega) ?_
                exact W.zret hx hb hr zn1 (fun t ht9 hW => ⟨⟨_, R_609, rfl, (by show 1 = 1; exact rfl), by rw [ht9]; exact hP, hD⟩, hS.F ht9⟩) hS.2.2 dL_isRefused_623
              · have c_459 := nl_lt (k := g) (n := n) c_459 (by omega) (by omega)
                refine lv_iload hx hb dL_isRefused_462 (lv_at hl 1 rfl) ?_
                refine lv_if_eq (x := 1) (tgt := 603) hx hb dL_isRefused_464 (by decide) (fun k => absurd k (by decide)) (fun _ => ?_)
                have hgd : mIn (nI g) 0 (nI n - 1) = true := (gd_iff hn16).mpr ⟨g, c_459, rfl⟩
                refine lv_aload_n hx hb dL_isRefused_467 rfl (lv_at hl 2 rfl) ?_
                refine lv_iconst (v := 0) hx hb dL_isRefused_468 (by decide) ?_
                refine lv_iload hx hb dL_isRefused_469 (lv_at hl 0 rfl) ?_
                refine lv_iload hx hb dL_isRefused_471 (lv_at hl 8 rfl) ?_
                refine la_SW (As := [.ref (q 9), .int 0, .int (nI g), .int mch]) (rest := []) (wr := [(qm, .inl (cI, 1, .inl (C)))]) ⟨hx, hb, hml, hown, hts⟩ (c_L_of_0 l hfl D q F n R_104 cI cZ _ (nI g) mch hw) (vx_cwSW 4 hts gL_isRefused_L_of rfl rfl rfl (by decide +kernel) ⟨Nat.le_of_ble_eq_true rfl, Nat.le_of_ble_eq_true rfl⟩) hn9 htA hK hP hD hA [0, 1, 2, 3, 4, 5, 6, 7, 8, 9] [10] rfl rfl (by decide) rfl (by decide) (by decide) hS rfl hl.1 rfl (Nat.le_of_ble_eq_true rfl) dL_isRefused_473 ⟨by show _ ≤ 300; omega, by show _ ≤ 1800; omega⟩ (fun r9 u9 H locs h_473 hP hD hS => ?_)
                obtain ⟨h9a, h9b⟩ := h_473.2.2 (thQ_2 hgd hq)
                subst h9a
                obtain rfl : F = u9 := h9b.symm
                have hP : va_P D vwCl (wX q F (nI n) R_104 cI cZ ++ [(qm, .inl (cI, 1, .inl (C)))]) H := hP.sub [1, 2, 3, 4, 5, 6, 7, 8, 9, 10, 0] rfl
                have hD : va_D A (wX q F (nI n) R_104 cI cZ ++ [(qm, .inl (cI, 1, .inl (C)))]) := hD.sub [1, 2, 3, 4, 5, 6, 7, 8, 9, 10, 0] (by decide) rfl
                refine lv_sipush (v := (-702)) hx hb dL_isRefused_476 (by decide) ?_
                refine lv_icmp_ne (x := (-702)) (y := (-702)) (tgt := 594) hx hb dL_isRefused_479 (by decide) (fun k => absurd (by decide) k) (fun _ => ?_)
                refine lv_aload_n hx hb dL_isRefused_482 rfl (lv_at hl 2 rfl) ?_
                refine lv_iconst (v := 1) hx hb dL_isRefused_483 (by decide) ?_
                refine lv_iload hx hb dL_isRefused_484 (lv_at hl 0 rfl) ?_
                refine lv_iload hx hb dL_isRefused_486 (lv_at hl 7 rfl) ?_
                refine la_SW (As := [.ref (q 9), .int 1, .int (nI g), .int plc]) (rest := []) (wr := [(qm, .inl (cI, 1, .inl (C)))]) ⟨hx, hb, hml, hown, hts⟩ (c_L_of_1 l hfl D q F n R_104 cI cZ _ (nI g) plc hw) (vx_cwSW 4 hts gL_isRefused_L_of rfl rfl rfl (by decide +kernel) ⟨Nat.le_of_ble_eq_true rfl, Nat.le_of_ble_eq_true rfl⟩) hn9 htA hK hP hD hA [0, 1, 2, 3, 4, 5, 6, 7, 8, 9] [10] rfl rfl (by decide) rfl (by decide) (by decide) hS rfl hl.1 rfl (Nat.le_of_ble_eq_true rfl) dL_isRefused_488 ⟨by show _ ≤ 300; omega, by show _ ≤ 1800; omega⟩ (fun r9 u9 H locs h_488 hP hD hS => ?_)
                obtain ⟨h9a, h9b⟩ := h_488.2.2 (thP_2 hgd hpm hp)
                subst h9a
                obtain rfl : F = u9 := h9b.symm
                have hP : va_P D vwCl (wX q F (nI n) R_104 cI cZ ++ [(qm, .inl (cI, 1, .inl (C)))]) H := hP.sub [1, 2, 3, 4, 5, 6, 7, 8, 9, 10, 0] rfl
                have hD : va_D A (wX q F (nI n) R_104 cI cZ ++ [(qm, .inl (cI, 1, .inl (C)))]) := hD.sub [1, 2, 3, 4, 5, 6, 7, 8, 9, 10, 0] (by decide) rfl
                refine lv_sipush (v := (-702)) hx hb dL_isRefused_491 (by decide) ?_
                refine lv_icmp_ne (x := (-702)) (y := (-702)) (tgt := 594) hx hb dL_isRefused_494 (by decide) (fun k => absurd (by decide) k) (fun _ => ?_)
                refine lv_aload_n hx hb dL_isRefused_497 rfl (lv_at hl 2 rfl) ?_
                refine lv_iconst (v := 5) hx hb dL_isRefused_498 (by decide) ?_
                refine lv_iload hx hb dL_isRefused_499 (lv_at hl 0 rfl) ?_
                refine lv_iload hx hb dL_isRefused_501 (lv_at hl 0 rfl) ?_
                refine la_SW (As := [.ref (q 9), .int 5, .int (nI g), .int (nI g)]) (rest := []) (wr := [(qm, .inl (cI, 1, .inl (C)))]) ⟨hx, hb, hml, hown, hts⟩ (c_L_of_5 l hfl D q F n R_104 cI cZ _ (nI g) (nI g) hw) (vx_cwSW 4 hts gL_isRefused_L_of rfl rfl rfl (by decide +kernel) ⟨Nat.le_of_ble_eq_true rfl, Nat.le_of_ble_eq_true rfl⟩) hn9 htA hK hP hD hA [0, 1, 2, 3, 4, 5, 6, 7, 8, 9] [10] rfl rfl (by decide) rfl (by decide) (by decide) hS rfl hl.1 rfl (Nat.le_of_ble_eq_true rfl) dL_isRefused_503 ⟨by show _ ≤ 300; omega, by show _ ≤ 1800; omega⟩ (fun r9 u9 H locs h_503 hP hD hS => ?_)
                obtain rfl := h_503.2 (th2_2 hgd hgd rfl)
                have hP : va_P D vwCl (wX q F (nI n) R_104 cI cZ ++ [(qm, .inl (cI, 1, .inl (C)))]) H := hP.sub [1, 2, 3, 4, 5, 6, 7, 8, 9, 10, 0] rfl
                have hD : va_D A (wX q F (nI n) R_104 cI cZ ++ [(qm, .inl (cI, 1, .inl (C)))]) := hD.sub [1, 2, 3, 4, 5, 6, 7, 8, 9, 10, 0] (by decide) rfl
                refine lv_sipush (v := (-702)) hx hb dL_isRefused_506 (by decide) ?_
                refine lv_icmp_ne (x := (-702)) (y := (-702)) (tgt := 594) hx hb dL_isRefused_509 (by decide) (fun k => absurd (by decide) k) (fun _ => ?_)
                refine lv_aload_n hx hb dL_isRefused_512 rfl (lv_at hl 2 rfl) ?_
                refine lv_bipush (v := 6) hx hb dL_isRefused_513 (by decide) ?_
                refine lv_iload hx hb dL_isRefused_515 (lv_at hl 0 rfl) ?_
                refine lv_iload hx hb dL_isRefused_517 (lv_at hl 0 rfl) ?_
                refine la_SW (As := [.ref (q 9), .int 6, .int (nI g), .int (nI g)]) (rest := []) (wr := [(qm, .inl (cI, 1, .inl (C)))]) ⟨hx, hb, hml, hown, hts⟩ (c_L_of_6 l hfl D q F n R_104 cI cZ _ (nI g) (nI g) hw) (vx_cwSW 4 hts gL_isRefused_L_of rfl rfl rfl (by decide +kernel) ⟨Nat.le_of_ble_eq_true rfl, Nat.le_of_ble_eq_true rfl⟩) hn9 htA hK hP hD hA [0, 1, 2, 3, 4, 5, 6, 7, 8, 9] [10] rfl rfl (by decide) rfl (by decide) (by decide) hS rfl hl.1 rfl (Nat.le_of_ble_eq_true rfl) dL_isRefused_519 ⟨by show _ ≤ 300; omega, by show _ ≤ 1800; omega⟩ (fun r9 u9 H locs h_519 hP hD hS => ?_)
                obtain rfl := h_519.2 (th2_2 hgd hgd rfl)
                have hP : va_P D vwCl (wX q F (nI n) R_104 cI cZ ++ [(qm, .inl (cI, 1, .inl (C)))]) H := hP.sub [1, 2, 3, 4, 5, 6, 7, 8, 9, 10, 0] rfl
                have hD : va_D A (wX q F (nI n) R_104 cI cZ ++ [(qm, .inl (cI, 1, .inl (C)))]) := hD.sub [1, 2, 3, 4, 5, 6, 7, 8, 9, 10, 0] (by decide) rfl
                refine lv_sipush (v := (-702)) hx hb dL_isRefused_522 (by decide) ?_
                refine lv_icmp_ne (x := (-702)) (y := (-702)) (tgt := 594) hx hb dL_isRefused_525 (by decide) (fun k => absurd (by decide) k) (fun _ => ?_)
                refine lv_aload_n hx hb dL_isRefused_528 rfl (lv_at hl 2 rfl) ?_
                refine lv_bipush (v := 9) hx hb dL_isRefused_529 (by decide) ?_
                refine lv_iload hx hb dL_isRefused_531 (lv_at hl 0 rfl) ?_
                refine lv_iload hx hb dL_isRefused_533 (lv_at hl 7 rfl) ?_
                refine la_SW (As := [.ref (q 9), .int 9, .int (nI g), .int plc]) (rest := []) (wr := [(qm, .inl (cI, 1, .inl (C)))]) ⟨hx, hb, hml, hown, hts⟩ (c_L_of_9 l hfl D q F n R_104 cI cZ _ (nI g) plc hw) (vx_cwSW 4 hts gL_isRefused_L_of rfl rfl rfl (by decide +kernel) ⟨Nat.le_of_ble_eq_true rfl, Nat.le_of_ble_eq_true rfl⟩) hn9 htA hK hP hD hA [0, 1, 2, 3, 4, 5, 6, 7, 8, 9] [10] rfl rfl (by decide) rfl (by decide) (by decide) hS rfl hl.1 rfl (Nat.le_of_ble_eq_true rfl) dL_isRefused_535 ⟨by show _ ≤ 300; omega, by show _ ≤ 1800; omega⟩ (fun r9 u9 H locs h_535 hP hD hS => ?_)
                obtain rfl := h_535.2 (thCP_2 hgd hp)
                have hP : va_P D vwCl (wX q F (nI n) R_104 cI cZ ++ [(qm, .inl (cI, 1, .inl (C)))]) H := hP.sub [1, 2, 3, 4, 5, 6, 7, 8, 9, 10, 0] rfl
                have hD : va_D A (wX q F (nI n) R_104 cI cZ ++ [(qm, .inl (cI, 1, .inl (C)))]) := hD.sub [1, 2, 3, 4, 5, 6, 7, 8, 9, 10, 0] (by decide) rfl
                refine lv_sipush (v := (-702)) hx hb dL_isRefused_538 (by decide) ?_
                refine lv_icmp_ne (x := (-702)) (y := (-702)) (tgt := 594) hx hb dL_isRefused_541 (by decide) (fun k => absurd (by decide) k) (fun _ => ?_)
                refine lv_aload_n hx hb dL_isRefused_544 rfl (lv_at hl 2 rfl) ?_
                refine lv_bipush (v := 9) hx hb dL_isRefused_545 (by decide) ?_
                refine lv_iload hx hb dL_isRefused_547 (lv_at hl 0 rfl) ?_
                refine lv_iconst (v := (-1)) hx hb dL_isRefused_549 (by decide) ?_
                refine la_SW (As := [.ref (q 9), .int 9, .int (nI g), .int (-1)]) (rest := []) (wr := [(qm, .inl (cI, 1, .inl (C)))]) ⟨hx, hb, hml, hown, hts⟩ (c_L_of_9 l hfl D q F n R_104 cI cZ _ (nI g) (-1) hw) (vx_cwSW 4 hts gL_isRefused_L_of rfl rfl rfl (by decide +kernel) ⟨Nat.le_of_ble_eq_true rfl, Nat.le_of_ble_eq_true rfl⟩) hn9 htA hK hP hD hA [0, 1, 2, 3, 4, 5, 6, 7, 8, 9] [10] rfl rfl (by decide) rfl (by decide) (by decide) hS rfl hl.1 rfl (Nat.le_of_ble_eq_true rfl) dL_isRefused_550 ⟨by show _ ≤ 300; omega, by show _ ≤ 1800; omega⟩ (fun r9 u9 H locs h_550 hP hD hS => ?_)
                obtain rfl := h_550.2 (thCP_2 hgd (by decide))
                have hP : va_P D vwCl (wX q F (nI n) R_104 cI cZ ++ [(qm, .inl (cI, 1, .inl (C)))]) H := hP.sub [1, 2, 3, 4, 5, 6, 7, 8, 9, 10, 0] rfl
                have hD : va_D A (wX q F (nI n) R_104 cI cZ ++ [(qm, .inl (cI, 1, .inl (C)))]) := hD.sub [1, 2, 3, 4, 5, 6, 7, 8, 9, 10, 0] (by decide) rfl
                refine lv_sipush (v := (-702)) hx hb dL_isRefused_553 (by decide) ?_
                refine lv_icmp_ne (x := (-702)) (y := (-702)) (tgt := 594) hx hb dL_isRefused_556 (by decide) (fun k => absurd (by decide) k) (fun _ => ?_)
                refine lv_aload_n hx hb dL_isRefused_559 rfl (lv_at hl 2 rfl) ?_
                refine lv_iconst (v := 5) hx hb dL_isRefused_560 (by decide) ?_
                refine lv_iload hx hb dL_isRefused_561 (lv_at hl 0 rfl) ?_
                refine lv_iload hx hb dL_isRefused_563 (lv_at hl 6 rfl) ?_
                refine la_SW (As := [.ref (q 9), .int 5, .int (nI g), .int non]) (rest := []) (wr := [(qm, .inl (cI, 1, .inl (C)))]) ⟨hx, hb, hml, hown, hts⟩ (c_L_of_5 l hfl D q F n R_104 cI cZ _ (nI g) non hw) (vx_cwSW 4 hts gL_isRefused_L_of rfl rfl rfl (by decide +kernel) ⟨Nat.le_of_ble_eq_true rfl, Nat.le_of_ble_eq_true rfl⟩) hn9 htA hK hP hD hA [0, 1, 2, 3, 4, 5, 6, 7, 8, 9] [10] rfl rfl (by decide) rfl (by decide) (by decide) hS rfl hl.1 rfl (Nat.le_of_ble_eq_true rfl) dL_isRefused_565 ⟨by show _ ≤ 300; omega, by show _ ≤ 1800; omega⟩ (fun r9 u9 H locs h_565 hP hD hS => ?_)
                obtain rfl := h_565.1 (th2_1 (Or.inr hnn))
                have hP : va_P D vwCl (wX q F (nI n) R_104 cI cZ ++ [(qm, .inl (cI, 1, .inl (C)))]) H := hP.sub [1, 2, 3, 4, 5, 6, 7, 8, 9, 10, 0] rfl
                have hD : va_D A (wX q F (nI n) R_104 cI cZ ++ [(qm, .inl (cI, 1, .inl (C)))]) := hD.sub [1, 2, 3, 4, 5, 6, 7, 8, 9, 10, 0] (by decide) rfl
                refine lv_sipush (v := (-701)) hx hb dL_isRefused_568 (by decide) ?_
                refine lv_icmp_ne (x := (-701)) (y := (-701)) (tgt := 594) hx hb dL_isRefused_571 (by decide) (fun k => absurd (by decide) k) (fun _ => ?_)
                refine lv_aload_n hx hb dL_isRefused_574 rfl (lv_at hl 2 rfl) ?_
                refine lv_bipush (v := 6) hx hb dL_isRefused_575 (by decide) ?_
                refine lv_iload hx hb dL_isRefused_577 (lv_at hl 6 rfl) ?_
                refine lv_iload hx hb dL_isRefused_579 (lv_at hl 0 rfl) ?_
                refine la_SW (As := [.ref (q 9), .int 6, .int non, .int (nI g)]) (rest := []) (wr := [(qm, .inl (cI, 1, .inl (C)))]) ⟨hx, hb, hml, hown, hts⟩ (c_L_of_6 l hfl D q F n R_104 cI cZ _ non (nI g) hw) (vx_cwSW 4 hts gL_isRefused_L_of rfl rfl rfl (by decide +kernel) ⟨Nat.le_of_ble_eq_true rfl, Nat.le_of_ble_eq_true rfl⟩) hn9 htA hK hP hD hA [0, 1, 2, 3, 4, 5, 6, 7, 8, 9] [10] rfl rfl (by decide) rfl (by decide) (by decide) hS rfl hl.1 rfl (Nat.le_of_ble_eq_true rfl) dL_isRefused_581 ⟨by show _ ≤ 300; omega, by show _ ≤ 1800; omega⟩ (fun r9 u9 H locs h_581 hP hD hS => ?_)
                obtain rfl := h_581.1 (th2_1 (Or.inl hnn))
                have hP : va_P D vwCl (wX q F (nI n) R_104 cI cZ ++ [(qm, .inl (cI, 1, .inl (C)))]) H := hP.sub [1, 2, 3, 4, 5, 6, 7, 8, 9, 10, 0] rfl
                have hD : va_D A (wX q F (nI n) R_104 cI cZ ++ [(qm, .inl (cI, 1, .inl (C)))]) := hD.sub [1, 2, 3, 4, 5, 6, 7, 8, 9, 10, 0] (by decide) rfl
                refine lv_sipush (v := (-701)) hx hb dL_isRefused_584 (by decide) ?_
                refine lv_icmp_ne (x := (-701)) (y := (-701)) (tgt := 594) hx hb dL_isRefused_587 (by decide) (fun k => absurd (by decide) k) (fun _ => ?_)
                refine lv_iconst (v := 1) hx hb dL_isRefused_590 (by decide) ?_
                refine lv_goto (tgt := 595) hx hb dL_isRefused_591 (by decide) ?_
                refine lv_istore (lv' := [(10, .int 1), (11, .int (nI g)), (0, .ref (q 9)), (1, .ref qm), (2, .int (nI x)), (4, .int mch), (5, .int non), (6, .int plc), (7, .int mch), (8, .long (bH F n (n * n)))]) hx hb dL_isRefused_595 hl (by decide) rfl (fun ls hl => ?_)
                refine lv_iinc (v := (nI (g + 1))) (lv' := [(11, .int (nI (g + 1))), (10, .int 1), (0, .ref (q 9)), (1, .ref qm), (2, .int (nI x)), (4, .int mch), (5, .int non), (6, .int plc), (7, .int mch), (8, .long (bH F n (n * n)))]) hx hb dL_isRefused_597 hl (k := 1) rfl (nI_add g 1) (by decide) rfl (fun ls hl => ?_)
                refine lv_goto (tgt := 454) hx hb dL_isRefused_600 (by decide) ?_
                refine W.widen (k := 81 + 20 * (g + 1)) (n := 486 + 120 * (g + 1)) (by omega) (by omega) ?_
                exact ih454 (g + 1) _ _ _ (by omega) (by omega) hP hD hS (lv_sub hl [0, 1, 2, 3, 4, 5, 6, 7, 8, 9] rfl)
          refine W.widen (k := 81 + 20 * 0) (n := 486 + 120 * 0) (by omega) (by omega) ?_
          exact L454 _ 0 _ _ _ (Nat.lt_succ_self _) (by omega) hP hD hS (lv_sub hl [0, 1, 2, 3, 4, 5, 6, 7, 8, 9] rfl)
        · have c_414 := nl_lt (k := w1) (n := 11) c_414 (by omega) (by omega)
          refine lv_iload hx hb dL_isRefused_417 (lv_at hl 1 rfl) ?_
          refine lv_if_eq (x := 1) (tgt := 451) hx hb dL_isRefused_419 (by decide) (fun k => absurd k (by decide)) (fun _ => ?_)
          refine lv_aload_n hx hb dL_isRefused_422 rfl (lv_at hl 2 rfl) ?_
          refine lv_iload hx hb dL_isRefused_423 (lv_at hl 0 rfl) ?_
          refine lv_iload hx hb dL_isRefused_425 (lv_at hl 6 rfl) ?_
          refine lv_iload hx hb dL_isRefused_427 (lv_at hl 7 rfl) ?_
          refine la_SW (As := [.ref (q 9), .int (nI w1), .int non, .int plc]) (rest := []) (wr := [(qm, .inl (cI, 1, .inl (C)))]) ⟨hx, hb, hml, hown, hts⟩ (c_L_of_none l hfl D q F n R_104 cI cZ _ w1 non plc hw c_414 hnn) (vx_cwSW 4 hts gL_isRefused_L_of rfl rfl rfl (by decide +kernel) ⟨Nat.le_of_ble_eq_true rfl, Nat.le_of_ble_eq_true rfl⟩) hn9 htA hK hP hD hA [0, 1, 2, 3, 4, 5, 6, 7, 8, 9] [10] rfl rfl (by decide) rfl (by decide) (by decide) hS rfl hl.1 rfl (Nat.le_of_ble_eq_true rfl) dL_isRefused_429 ⟨by show _ ≤ 300; omega, by show _ ≤ 1800; omega⟩ (fun r9 u9 H locs h_429 hP hD hS => ?_)
          obtain rfl := h_429
          have hP : va_P D vwCl (wX q F (nI n) R_104 cI cZ ++ [(qm, .inl (cI, 1, .inl (C)))]) H := hP.sub [1, 2, 3, 4, 5, 6, 7, 8, 9, 10, 0] rfl
          have hD : va_D A (wX q F (nI n) R_104 cI cZ ++ [(qm, .inl (cI, 1, .inl (C)))]) := hD.sub [1, 2, 3, 4, 5, 6, 7, 8, 9, 10, 0] (by decide) rfl
          refine lv_sipush (v := (-701)) hx hb dL_isRefused_432 (by decide) ?_
          refine lv_icmp_ne (x := (-701)) (y := (-701)) (tgt := 442) hx hb dL_isRefused_435 (by decide) (fun k => absurd (by decide) k) (fun _ => ?_)
          refine lv_iconst (v := 1) hx hb dL_isRefused_438 (by decide) ?_
          refine lv_goto (tgt := 443) hx hb dL_isRefused_439 (by decide) ?_
          refine lv_istore (lv' := [(10, .int 1), (11, .int (nI w1)), (0, .ref (q 9)), (1, .ref qm), (2, .int (nI x)), (4, .int mch), (5, .int non), (6, .int plc), (7, .int mch), (8, .long (bH F n (n * n)))]) hx hb dL_isRefused_443 hl (by decide) rfl (fun ls hl => ?_)
          refine lv_iinc (v := (nI (w1 + 1))) (lv' := [(11, .int (nI (w1 + 1))), (10, .int 1), (0, .ref (q 9)), (1, .ref qm), (2, .int (nI x)), (4, .int mch), (5, .int non), (6, .int plc), (7, .int mch), (8, .long (bH F n (n * n)))]) hx hb dL_isRefused_445 hl (k := 1) rfl (nI_add w1 1) (by decide) rfl (fun ls hl => ?_)
          refine lv_goto (tgt := 410) hx hb dL_isRefused_448 (by decide) ?_
          refine W.widen (k := 48 + 3 * (w1 + 1)) (n := 288 + 18 * (w1 + 1)) (by omega) (by omega) ?_
          exact ih410 (w1 + 1) _ _ _ (by omega) (by omega) hP hD hS (lv_sub hl [0, 1, 2, 3, 4, 5, 6, 7, 8, 9] rfl)
    refine W.widen (k := 48 + 3 * 0) (n := 288 + 18 * 0) (by omega) (by omega) ?_
    exact L410 _ 0 _ _ _ (Nat.lt_succ_self _) (by omega) hP hD hS (lv_sub hl [0, 1, 8, 9, 10, 6, 5, 4, 3, 2] rfl)

/-! all, isPlaceFor -/
theorem cl_not {F : Nat → Nat → Int32} {n g : Nat} {p : Int32} (h : nI (sAt F n g p) = 0) : bi (!(sMis F g p)) = bi (sClean F n g p) := by
  unfold sClean
  rw [if_pos h]
  cases sMis F g p <;> rfl
theorem cl_bad {F : Nat → Nat → Int32} {n g : Nat} {p : Int32} (h : ¬ nI (sAt F n g p) = 0) : 0 = bi (sClean F n g p) := by
  unfold sClean
  rw [if_neg h]
  cases sMis F g p <;> rfl
def aH (F : Nat → Nat → Int32) (n : Nat) : Nat → Int64
  | 0 => (nI n).toInt64 + 31 * (nI (cO F n n)).toInt64 + 7 * (nI (sLeast F n)).toInt64
  | k + 1 => 1000003 * aH F n k + (F 7 k).toInt64 + 257 * (nI (sAt F n k (F 7 k))).toInt64 + (if sLim F k = true then 5 else 0) + (if sExc F k = true then 11 else 0) + (if sMis F k (F 7 k) = true then 17 else 0)
def bHs (F : Nat → Nat → Int32) (n k : Nat) (h : Int64) : Int64 := 31 * h + (if k % n = k / n then (0 : Int32) else sNeed F (k % n) (k / n)).toInt64
def bH (F : Nat → Nat → Int32) (n : Nat) : Nat → Int64
  | 0 => aH F n n
  | k + 1 => bHs F n k (bH F n k)
set_option maxHeartbeats 8000000 in
set_option maxRecDepth 100000 in
theorem c_L_all (l : Launch) (D : va_G) (q : Nat → Nat) (F : Nat → Nat → Int32) (n : Nat) (R : Nat → Int32) (cI cZ : ClassId) (sz : Nat) (hw : WF F n) : Met l yL_all wsL_all ({ frames := 20, cells := 0, slots := 0, locals := 843 }) (va_Pc [.ref (q 9)] (wS D (wX q F (nI n) R cI cZ) (tIZ cI cZ) sz)) (va_Ql (fun (r : Int64) (u : Nat → Int32) => r = bH F n (n * n)) (wB D (va_A (wX q F (nI n) R cI cZ) sz) (fun (u : Nat → Int32) => wX q F (nI n) u cI cZ)) (va_A (wX q F (nI n) R cI cZ) sz)) 0 0 (va_A (wX q F (nI n) R cI cZ) sz) := by
  refine in_of (Qc := fun A => (va_Ql (fun (r : Int64) (u : Nat → Int32) => r = bH F n (n * n)) (wB D A (fun (u : Nat → Int32) => wX q F (nI n) u cI cZ)) A)) (own := RL) (cc := cL_all) (maxL := 4) (ret := (some .long)) (by decide) rfl rfl (Nat.le_of_ble_eq_true rfl) ?_
  intro p9 e9 s m9 a9 below meth c9 ls A hx hb hr hml hlocks hown hts hP hK hD hA hl hnm
  have hS : va_S A s.heap s.heap [] := va_S.rf
  have hl : lv_has ls 4 [(0, .ref (q 9))] := hl
  have hn16 := hw.n
  have hnn : n * n ≤ 256 := Nat.mul_le_mul hw.n hw.n
  refine lv_aload_n hx hb dL_all_0 rfl (lv_at hl 0 rfl) ?_
  refine ro_V (As := []) (rest := []) ⟨hx, hb, hml, hown, hts⟩ (c_X0_goods l D q F n R cI cZ) (cwV 0 hts gL_all_X0_goods rfl rfl rfl (by decide +kernel) ⟨Nat.le_of_ble_eq_true rfl, Nat.le_of_ble_eq_true rfl⟩) hK hP (hP.sub [0, 1, 2, 3, 4, 5, 6, 7, 8, 9] rfl) (va_recv hK hP (ci := 0) (q0 := 0) rfl rfl) hS rfl hl.1 rfl (Nat.le_of_ble_eq_true rfl) dL_all_1 ⟨Nat.le_of_ble_eq_true rfl, Nat.le_of_ble_eq_true rfl⟩ (fun r9 H locs h_1 hP hS => ?_)
  obtain rfl := h_1
  refine lv_i2l hx hb dL_all_4 rfl ?_
  refine lv_ldc2 hx hb hown (hts (.constantLong RL 86 (31)) (by decide +kernel)) dL_all_5 ?_
  refine lv_aload_n hx hb dL_all_8 rfl (lv_at hl 0 rfl) ?_
  refine ro_V (As := []) (rest := [.long 31, .long (nI n).toInt64]) ⟨hx, hb, hml, hown, hts⟩ (c_X0_breaches l D q F n R cI cZ hw) (cwV 0 hts gL_all_X0_breaches rfl rfl rfl (by decide +kernel) ⟨Nat.le_of_ble_eq_true rfl, Nat.le_of_ble_eq_true rfl⟩) hK hP (hP.sub [0, 1, 2, 3, 4, 5, 6, 7, 8, 9] rfl) (va_recv hK hP (ci := 0) (q0 := 0) rfl rfl) hS rfl hl.1 rfl (Nat.le_of_ble_eq_true rfl) dL_all_9 ⟨Nat.le_of_ble_eq_true rfl, Nat.le_of_ble_eq_true rfl⟩ (fun r9 H locs h_9 hP hS => ?_)
  obtain rfl := h_9
  refine lv_i2l hx hb dL_all_12 rfl ?_
  refine lv_lmul hx hb (x := 31) (y := ((nI (cO F n n)).toInt64)) dL_all_13 ?_
  refine lv_ladd hx hb (x := ((nI n).toInt64)) (y := (31 * ((nI (cO F n n)).toInt64))) dL_all_14 ?_
  refine lv_ldc2 hx hb hown (hts (.constantLong RL 91 (7)) (by decide +kernel)) dL_all_15 ?_
  refine lv_aload_n hx hb dL_all_18 rfl (lv_at hl 0 rfl) ?_
  refine wr_V (As := []) (rest := [.long 7, .long (((nI n).toInt64) + (31 * ((nI (cO F n n)).toInt64)))]) (wr := ([] : va_W)) ⟨hx, hb, hml, hown, hts⟩ (c_X0_leaving l D q F n R cI cZ _ hw) (cwV 0 hts gL_all_X0_leaving rfl rfl rfl (by decide +kernel) ⟨Nat.le_of_ble_eq_true rfl, Nat.le_of_ble_eq_true rfl⟩) hK hP hD hA [0, 1, 2, 3, 4, 5, 6, 7, 8, 9] [] rfl rfl (by decide) rfl (by decide) (by decide) (va_recv hK hP (ci := 0) (q0 := 0) rfl rfl) hS rfl hl.1 rfl (Nat.le_of_ble_eq_true rfl) dL_all_19 ⟨Nat.le_of_ble_eq_true rfl, Nat.le_of_ble_eq_true rfl⟩ (fun r9 R_19 H locs h_19 hP hD hS => ?_)
  obtain rfl := h_19
  have hP : va_P D vwCl (wX q F (nI n) R_19 cI cZ) H := hP
  have hD : va_D A (wX q F (nI n) R_19 cI cZ) := hD
  refine lv_i2l hx hb dL_all_22 rfl ?_
  refine lv_lmul hx hb (x := 7) (y := ((nI (sLeast F n)).toInt64)) dL_all_23 ?_
  refine lv_ladd hx hb (x := (((nI n).toInt64) + (31 * ((nI (cO F n n)).toInt64)))) (y := (7 * ((nI (sLeast F n)).toInt64))) dL_all_24 ?_
  refine lv_lstore_n (lv' := [(1, .long ((((nI n).toInt64) + (31 * ((nI (cO F n n)).toInt64))) + (7 * ((nI (sLeast F n)).toInt64)))), (0, .ref (q 9))]) hx hb dL_all_25 rfl hl (by decide) rfl (fun ls hl => ?_)
  refine lv_iconst (v := 0) hx hb dL_all_26 (by decide) ?_
  refine lv_istore_n (lv' := [(3, .int 0), (1, .long ((((nI n).toInt64) + (31 * ((nI (cO F n n)).toInt64))) + (7 * ((nI (sLeast F n)).toInt64)))), (0, .ref (q 9))]) hx hb dL_all_27 rfl hl (by decide) rfl (fun ls hl => ?_)
  have L28 : ∀ (d9 : Nat) (k : Nat) (H : Heap) (locs : List Loc) (ls : Array Slot), n - k < d9 → (k ≤ n) → va_P D vwCl (wX q F (nI n) R_19 cI cZ) H → va_D A (wX q F (nI n) R_19 cI cZ) → va_S A s.heap H locs → lv_has ls 4 [(3, .int (nI k)), (1, .long (aH F n k)), (0, .ref (q 9))] → W p9 l e9 ({ frames := 20, cells := 0, slots := 0, locals := 843 }) s m9 a9 below meth c9 H locs (0) (0) (MQ below (va_Ql (fun (r : Int64) (u : Nat → Int32) => r = bH F n (n * n)) (wB D A (fun (u : Nat → Int32) => wX q F (nI n) u cI cZ)) A) a9 s 0 0 A) (F0 m9 28 ls []) := by
    intro d9
    induction d9 with
    | zero => intro k H locs ls h9; exact absurd h9 (Nat.not_lt_zero _)
    | succ d9 ih28 =>
      intro k H locs ls hd28 hk hP hD hS hl
      refine lv_iload_n hx hb dL_all_28 rfl (lv_at hl 0 rfl) ?_
      refine lv_aload_n hx hb dL_all_29 rfl (lv_at hl 2 rfl) ?_
      refine ro_V (As := []) (rest := [.int (nI k)]) ⟨hx, hb, hml, hown, hts⟩ (c_X0_goods l D q F n R_19 cI cZ) (cwV 0 hts gL_all_X0_goods rfl rfl rfl (by decide +kernel) ⟨Nat.le_of_ble_eq_true rfl, Nat.le_of_ble_eq_true rfl⟩) hK hP (hP.sub [0, 1, 2, 3, 4, 5, 6, 7, 8, 9] rfl) (va_recv hK hP (ci := 0) (q0 := 0) rfl rfl) hS rfl hl.1 rfl (Nat.le_of_ble_eq_true rfl) dL_all_30 ⟨Nat.le_of_ble_eq_true rfl, Nat.le_of_ble_eq_true rfl⟩ (fun r9 H locs h_30 hP hS => ?_)
      obtain rfl := h_30
      refine lv_icmp_ge (x := (nI k)) (y := (nI n)) (tgt := 114) hx hb dL_all_33 (by decide) (fun c_33 => ?_) (fun c_33 => ?_)
      · have c_33 := nl_ge (k := k) (n := n) c_33 (by omega) (by omega)
        have hk33 : n = k := by omega
        subst hk33
        refine lv_iconst (v := 0) hx hb dL_all_114 (by decide) ?_
        refine lv_istore_n (lv' := [(3, .int 0), (1, .long (aH F n n)), (0, .ref (q 9))]) hx hb dL_all_115 rfl hl (by decide) rfl (fun ls hl => ?_)
        have L116 : ∀ (d9 : Nat) (k : Nat) (H : Heap) (locs : List Loc) (ls : Array Slot), n * n - k < d9 → (k ≤ n * n) → va_P D vwCl (wX q F (nI n) R_19 cI cZ) H → va_D A (wX q F (nI n) R_19 cI cZ) → va_S A s.heap H locs → lv_has ls 4 [(3, .int (nI k)), (1, .long (bH F n k)), (0, .ref (q 9))] → W p9 l e9 ({ frames := 20, cells := 0, slots := 0, locals := 843 }) s m9 a9 below meth c9 H locs (0) (0) (MQ below (va_Ql (fun (r : Int64) (u : Nat → Int32) => r = bH F n (n * n)) (wB D A (fun (u : Nat → Int32) => wX q F (nI n) u cI cZ)) A) a9 s 0 0 A) (F0 m9 116 ls []) := by
          intro d9
          induction d9 with
          | zero => intro k H locs ls h9; exact absurd h9 (Nat.not_lt_zero _)
          | succ d9 ih116 =>
            intro k H locs ls hd116 hk hP hD hS hl
            refine lv_iload_n hx hb dL_all_116 rfl (lv_at hl 0 rfl) ?_
            refine lv_aload_n hx hb dL_all_117 rfl (lv_at hl 2 rfl) ?_
            refine ro_V (As := []) (rest := [.int (nI k)]) ⟨hx, hb, hml, hown, hts⟩ (c_X0_goods l D q F n R_19 cI cZ) (cwV 0 hts gL_all_X0_goods rfl rfl rfl (by decide +kernel) ⟨Nat.le_of_ble_eq_true rfl, Nat.le_of_ble_eq_true rfl⟩) hK hP (hP.sub [0, 1, 2, 3, 4, 5, 6, 7, 8, 9] rfl) (va_recv hK hP (ci := 0) (q0 := 0) rfl rfl) hS rfl hl.1 rfl (Nat.le_of_ble_eq_true rfl) dL_all_118 ⟨Nat.le_of_ble_eq_true rfl, Nat.le_of_ble_eq_true rfl⟩ (fun r9 H locs h_118 hP hS => ?_)
            obtain rfl := h_118
            refine lv_aload_n hx hb dL_all_121 rfl (lv_at hl 2 rfl) ?_
            refine ro_V (As := []) (rest := [.int (nI n), .int (nI k)]) ⟨hx, hb, hml, hown, hts⟩ (c_X0_goods l D q F n R_19 cI cZ) (cwV 0 hts gL_all_X0_goods rfl rfl rfl (by decide +kernel) ⟨Nat.le_of_ble_eq_true rfl, Nat.le_of_ble_eq_true rfl⟩) hK hP (hP.sub [0, 1, 2, 3, 4, 5, 6, 7, 8, 9] rfl) (va_recv hK hP (ci := 0) (q0 := 0) rfl rfl) hS rfl hl.1 rfl (Nat.le_of_ble_eq_true rfl) dL_all_122 ⟨Nat.le_of_ble_eq_true rfl, Nat.le_of_ble_eq_true rfl⟩ (fun r9 H locs h_122 hP hS => ?_)
            obtain rfl := h_122
            refine lv_imul hx hb (x := (nI n)) (y := (nI n)) dL_all_125 ?_
            refine W.eq (g2 := F0 m9 126 ls (.int (nI (n * n)) :: [.int (nI k)])) (congrArg (fun z => F0 m9 126 ls (Value.int z :: [.int (nI k)])) (pk_mul n n)) ?_
            refine lv_icmp_ge (x := (nI k)) (y := (nI (n * n))) (tgt := 178) hx hb dL_all_126 (by decide) (fun c_126 => ?_) (fun c_126 => ?_)
            · have c_126 := nl_ge (k := k) (n := (n * n)) c_126 (by omega) (by omega)
              refine lv_lload_n hx hb dL_all_178 rfl (lv_at hl 1 rfl) ?_
              refine W.widen (k := 0) (n := 0) (by omega) (by omega) ?_
              exact W.lret hx hb hr (fun t ht9 hW => ⟨⟨_, R_19, rfl, (by show (bH F n k) = bH F n (n * n); exact by rw [show n * n = k by omega]), by rw [ht9]; exact hP, hD⟩, hS.F ht9⟩) hS.2.2 dL_all_179
            · have c_126 := nl_lt (k := k) (n := (n * n)) c_126 (by omega) (by omega)
              have h0 : 0 < n := Nat.pos_of_ne_zero (fun e => by rw [e] at c_126; exact absurd c_126 (Nat.not_lt_zero _))
              have hq1 : k % n < n := Nat.mod_lt _ h0
              have hq2 : k / n < n := Nat.div_lt_of_lt_mul c_126
              refine lv_ldc2 hx hb hown (hts (.constantLong RL 86 (31)) (by decide +kernel)) dL_all_129 ?_
              refine lv_lload_n hx hb dL_all_132 rfl (lv_at hl 1 rfl) ?_
              refine lv_lmul hx hb (x := 31) (y := (bH F n k)) dL_all_133 ?_
              refine lv_iload_n hx hb dL_all_134 rfl (lv_at hl 0 rfl) ?_
              refine lv_aload_n hx hb dL_all_135 rfl (lv_at hl 2 rfl) ?_
              refine ro_V (As := []) (rest := [.int (nI k), .long (31 * (bH F n k))]) ⟨hx, hb, hml, hown, hts⟩ (c_X0_goods l D q F n R_19 cI cZ) (cwV 0 hts gL_all_X0_goods rfl rfl rfl (by decide +kernel) ⟨Nat.le_of_ble_eq_true rfl, Nat.le_of_ble_eq_true rfl⟩) hK hP (hP.sub [0, 1, 2, 3, 4, 5, 6, 7, 8, 9] rfl) (va_recv hK hP (ci := 0) (q0 := 0) rfl rfl) hS rfl hl.1 rfl (Nat.le_of_ble_eq_true rfl) dL_all_136 ⟨Nat.le_of_ble_eq_true rfl, Nat.le_of_ble_eq_true rfl⟩ (fun r9 H locs h_136 hP hS => ?_)
              obtain rfl := h_136
              refine lv_irem hx hb (x := (nI k)) (y := (nI n)) dL_all_139 (nI_ne0 (by omega) (by omega)) ?_
              refine W.eq (g2 := F0 m9 140 ls (.int (nI (k % n)) :: [.long (31 * (bH F n k))])) (congrArg (fun z => F0 m9 140 ls (Value.int z :: [.long (31 * (bH F n k))])) (pk_rem (a := k) (d := n) (by omega) (by omega) (by omega))) ?_
              refine lv_iload_n hx hb dL_all_140 rfl (lv_at hl 0 rfl) ?_
              refine lv_aload_n hx hb dL_all_141 rfl (lv_at hl 2 rfl) ?_
              refine ro_V (As := []) (rest := [.int (nI k), .int (nI (k % n)), .long (31 * (bH F n k))]) ⟨hx, hb, hml, hown, hts⟩ (c_X0_goods l D q F n R_19 cI cZ) (cwV 0 hts gL_all_X0_goods rfl rfl rfl (by decide +kernel) ⟨Nat.le_of_ble_eq_true rfl, Nat.le_of_ble_eq_true rfl⟩) hK hP (hP.sub [0, 1, 2, 3, 4, 5, 6, 7, 8, 9] rfl) (va_recv hK hP (ci := 0) (q0 := 0) rfl rfl) hS rfl hl.1 rfl (Nat.le_of_ble_eq_true rfl) dL_all_142 ⟨Nat.le_of_ble_eq_true rfl, Nat.le_of_ble_eq_true rfl⟩ (fun r9 H locs h_142 hP hS => ?_)
              obtain rfl := h_142
              refine lv_idiv hx hb (x := (nI k)) (y := (nI n)) dL_all_145 (nI_ne0 (by omega) (by omega)) ?_
              refine W.eq (g2 := F0 m9 146 ls (.int (nI (k / n)) :: [.int (nI (k % n)), .long (31 * (bH F n k))])) (congrArg (fun z => F0 m9 146 ls (Value.int z :: [.int (nI (k % n)), .long (31 * (bH F n k))])) (pk_div (a := k) (d := n) (by omega) (by omega) (by omega))) ?_
              refine lv_icmp_ne (x := (nI (k % n))) (y := (nI (k / n))) (tgt := 153) hx hb dL_all_146 (by decide) (fun c_146 => ?_) (fun c_146 => ?_)
              · have c_146 := nq_ne (k := (k % n)) (n := (k / n)) c_146 (by omega) (by omega)
                refine lv_aload_n hx hb dL_all_153 rfl (lv_at hl 2 rfl) ?_
                refine lv_iload_n hx hb dL_all_154 rfl (lv_at hl 0 rfl) ?_
                refine lv_aload_n hx hb dL_all_155 rfl (lv_at hl 2 rfl) ?_
                refine ro_V (As := []) (rest := [.int (nI k), .ref (q 9), .long (31 * (bH F n k))]) ⟨hx, hb, hml, hown, hts⟩ (c_X0_goods l D q F n R_19 cI cZ) (cwV 0 hts gL_all_X0_goods rfl rfl rfl (by decide +kernel) ⟨Nat.le_of_ble_eq_true rfl, Nat.le_of_ble_eq_true rfl⟩) hK hP (hP.sub [0, 1, 2, 3, 4, 5, 6, 7, 8, 9] rfl) (va_recv hK hP (ci := 0) (q0 := 0) rfl rfl) hS rfl hl.1 rfl (Nat.le_of_ble_eq_true rfl) dL_all_156 ⟨Nat.le_of_ble_eq_true rfl, Nat.le_of_ble_eq_true rfl⟩ (fun r9 H locs h_156 hP hS => ?_)
                obtain rfl := h_156
                refine lv_irem hx hb (x := (nI k)) (y := (nI n)) dL_all_159 (nI_ne0 (by omega) (by omega)) ?_
                refine W.eq (g2 := F0 m9 160 ls (.int (nI (k % n)) :: [.ref (q 9), .long (31 * (bH F n k))])) (congrArg (fun z => F0 m9 160 ls (Value.int z :: [.ref (q 9), .long (31 * (bH F n k))])) (pk_rem (a := k) (d := n) (by omega) (by omega) (by omega))) ?_
                refine lv_iload_n hx hb dL_all_160 rfl (lv_at hl 0 rfl) ?_
                refine lv_aload_n hx hb dL_all_161 rfl (lv_at hl 2 rfl) ?_
                refine ro_V (As := []) (rest := [.int (nI k), .int (nI (k % n)), .ref (q 9), .long (31 * (bH F n k))]) ⟨hx, hb, hml, hown, hts⟩ (c_X0_goods l D q F n R_19 cI cZ) (cwV 0 hts gL_all_X0_goods rfl rfl rfl (by decide +kernel) ⟨Nat.le_of_ble_eq_true rfl, Nat.le_of_ble_eq_true rfl⟩) hK hP (hP.sub [0, 1, 2, 3, 4, 5, 6, 7, 8, 9] rfl) (va_recv hK hP (ci := 0) (q0 := 0) rfl rfl) hS rfl hl.1 rfl (Nat.le_of_ble_eq_true rfl) dL_all_162 ⟨Nat.le_of_ble_eq_true rfl, Nat.le_of_ble_eq_true rfl⟩ (fun r9 H locs h_162 hP hS => ?_)
                obtain rfl := h_162
                refine lv_idiv hx hb (x := (nI k)) (y := (nI n)) dL_all_165 (nI_ne0 (by omega) (by omega)) ?_
                refine W.eq (g2 := F0 m9 166 ls (.int (nI (k / n)) :: [.int (nI (k % n)), .ref (q 9), .long (31 * (bH F n k))])) (congrArg (fun z => F0 m9 166 ls (Value.int z :: [.int (nI (k % n)), .ref (q 9), .long (31 * (bH F n k))])) (pk_div (a := k) (d := n) (by omega) (by omega) (by omega))) ?_
                refine ro_V (As := [.int (nI (k % n)), .int (nI (k / n))]) (rest := [.long (31 * (bH F n k))]) ⟨hx, hb, hml, hown, hts⟩ (v_need l D q F n R_19 cI cZ (k % n) (k / n) hw hq1 hq2 c_146) (cwV 2 hts gL_all_X0_need rfl rfl rfl (by decide +kernel) ⟨Nat.le_of_ble_eq_true rfl, Nat.le_of_ble_eq_true rfl⟩) hK hP (hP.sub [0, 1, 2, 3, 4, 5, 6, 7, 8, 9] rfl) (va_recv hK hP (ci := 0) (q0 := 0) rfl rfl) hS rfl hl.1 rfl (Nat.le_of_ble_eq_true rfl) dL_all_166 ⟨Nat.le_of_ble_eq_true rfl, Nat.le_of_ble_eq_true rfl⟩ (fun r9 H locs h_166 hP hS => ?_)
                obtain rfl := h_166
                refine lv_i2l hx hb dL_all_169 rfl ?_
                refine lv_ladd hx hb (x := (31 * (bH F n k))) (y := ((sNeed F (k % n) (k / n)).toInt64)) dL_all_170 ?_
                refine lv_lstore_n (lv' := [(1, .long ((31 * (bH F n k)) + ((sNeed F (k % n) (k / n)).toInt64))), (3, .int (nI k)), (0, .ref (q 9))]) hx hb dL_all_171 rfl hl (by decide) rfl (fun ls hl => ?_)
                refine lv_iinc (v := (nI (k + 1))) (lv' := [(3, .int (nI (k + 1))), (1, .long ((31 * (bH F n k)) + ((sNeed F (k % n) (k / n)).toInt64))), (0, .ref (q 9))]) hx hb dL_all_172 hl (k := 1) rfl (nI_add k 1) (by decide) rfl (fun ls hl => ?_)
                refine lv_goto (tgt := 116) hx hb dL_all_175 (by decide) ?_
                have e1 : ((31 * (bH F n k)) + ((sNeed F (k % n) (k / n)).toInt64)) = (bH F n (k + 1)) := by show _ = bHs F n k (bH F n k); unfold bHs; rw [if_neg c_146]
                have hl : lv_has ls 4 [(3, .int (nI (k + 1))), (1, .long (bH F n (k + 1))), (0, .ref (q 9))] := by rw [← e1]; exact hl
                exact ih116 (k + 1) _ _ _ (by omega) (by omega) hP hD hS (lv_sub hl [0, 1, 2] rfl)
              · have c_146 := nq_eq (k := (k % n)) (n := (k / n)) c_146 (by omega) (by omega)
                refine lv_iconst (v := 0) hx hb dL_all_149 (by decide) ?_
                refine lv_goto (tgt := 169) hx hb dL_all_150 (by decide) ?_
                refine lv_i2l hx hb dL_all_169 rfl ?_
                refine lv_ladd hx hb (x := (31 * (bH F n k))) (y := ((0 : Int32).toInt64)) dL_all_170 ?_
                refine lv_lstore_n (lv' := [(1, .long ((31 * (bH F n k)) + ((0 : Int32).toInt64))), (3, .int (nI k)), (0, .ref (q 9))]) hx hb dL_all_171 rfl hl (by decide) rfl (fun ls hl => ?_)
                refine lv_iinc (v := (nI (k + 1))) (lv' := [(3, .int (nI (k + 1))), (1, .long ((31 * (bH F n k)) + ((0 : Int32).toInt64))), (0, .ref (q 9))]) hx hb dL_all_172 hl (k := 1) rfl (nI_add k 1) (by decide) rfl (fun ls hl => ?_)
                refine lv_goto (tgt := 116) hx hb dL_all_175 (by decide) ?_
                have e1 : ((31 * (bH F n k)) + ((0 : Int32).toInt64)) = (bH F n (k + 1)) := by show _ = bHs F n k (bH F n k); unfold bHs; rw [if_pos c_146]
                have hl : lv_has ls 4 [(3, .int (nI (k + 1))), (1, .long (bH F n (k + 1))), (0, .ref (q 9))] := by rw [← e1]; exact hl
                exact ih116 (k + 1) _ _ _ (by omega) (by omega) hP hD hS (lv_sub hl [0, 1, 2] rfl)
        exact L116 _ 0 _ _ _ (Nat.lt_succ_self _) (by omega) hP hD hS (lv_sub hl [0, 1, 2] rfl)
      · have c_33 := nl_lt (k := k) (n := n) c_33 (by omega) (by omega)
        have hk33 : k < n := c_33
        refine lv_ldc2 hx hb hown (hts (.constantLong RL 96 (1000003)) (by decide +kernel)) dL_all_36 ?_
        refine lv_lload_n hx hb dL_all_39 rfl (lv_at hl 1 rfl) ?_
        refine lv_lmul hx hb (x := 1000003) (y := (aH F n k)) dL_all_40 ?_
        refine lv_aload_n hx hb dL_all_41 rfl (lv_at hl 2 rfl) ?_
        refine lv_iload_n hx hb dL_all_42 rfl (lv_at hl 0 rfl) ?_
        refine ro_V (As := [.int (nI k)]) (rest := [.long (1000003 * (aH F n k))]) ⟨hx, hb, hml, hown, hts⟩ (v_placeOf l D q F n R_19 cI cZ k hw hk33) (cwV 1 hts gL_all_X0_placeOf rfl rfl rfl (by decide +kernel) ⟨Nat.le_of_ble_eq_true rfl, Nat.le_of_ble_eq_true rfl⟩) hK hP (hP.sub [0, 1, 2, 3, 4, 5, 6, 7, 8, 9] rfl) (va_recv hK hP (ci := 0) (q0 := 0) rfl rfl) hS rfl hl.1 rfl (Nat.le_of_ble_eq_true rfl) dL_all_43 ⟨Nat.le_of_ble_eq_true rfl, Nat.le_of_ble_eq_true rfl⟩ (fun r9 H locs h_43 hP hS => ?_)
        obtain rfl := h_43
        refine lv_i2l hx hb dL_all_46 rfl ?_
        refine lv_ladd hx hb (x := (1000003 * (aH F n k))) (y := ((F 7 k).toInt64)) dL_all_47 ?_
        refine lv_ldc2 hx hb hown (hts (.constantLong RL 98 (257)) (by decide +kernel)) dL_all_48 ?_
        refine lv_aload_n hx hb dL_all_51 rfl (lv_at hl 2 rfl) ?_
        refine lv_iload_n hx hb dL_all_52 rfl (lv_at hl 0 rfl) ?_
        refine ro_V (As := [.int (nI k)]) (rest := [.long 257, .long ((1000003 * (aH F n k)) + ((F 7 k).toInt64))]) ⟨hx, hb, hml, hown, hts⟩ (v_inBreachWith l D q F n R_19 cI cZ k hw hk33) (cwV 1 hts gL_all_X0_inBreachWith rfl rfl rfl (by decide +kernel) ⟨Nat.le_of_ble_eq_true rfl, Nat.le_of_ble_eq_true rfl⟩) hK hP (hP.sub [0, 1, 2, 3, 4, 5, 6, 7, 8, 9] rfl) (va_recv hK hP (ci := 0) (q0 := 0) rfl rfl) hS rfl hl.1 rfl (Nat.le_of_ble_eq_true rfl) dL_all_53 ⟨Nat.le_of_ble_eq_true rfl, Nat.le_of_ble_eq_true rfl⟩ (fun r9 H locs h_53 hP hS => ?_)
        obtain rfl := h_53
        refine lv_i2l hx hb dL_all_56 rfl ?_
        refine lv_lmul hx hb (x := 257) (y := ((nI (sAt F n k (F 7 k))).toInt64)) dL_all_57 ?_
        refine lv_ladd hx hb (x := ((1000003 * (aH F n k)) + ((F 7 k).toInt64))) (y := (257 * ((nI (sAt F n k (F 7 k))).toInt64))) dL_all_58 ?_
        refine lv_aload_n hx hb dL_all_59 rfl (lv_at hl 2 rfl) ?_
        refine lv_iload_n hx hb dL_all_60 rfl (lv_at hl 0 rfl) ?_
        refine ro_V (As := [.int (nI k)]) (rest := [.long (((1000003 * (aH F n k)) + ((F 7 k).toInt64)) + (257 * ((nI (sAt F n k (F 7 k))).toInt64)))]) ⟨hx, hb, hml, hown, hts⟩ (v_isLimited l D q F n R_19 cI cZ k hw hk33) (cwV 1 hts gL_all_X0_isLimited rfl rfl rfl (by decide +kernel) ⟨Nat.le_of_ble_eq_true rfl, Nat.le_of_ble_eq_true rfl⟩) hK hP (hP.sub [0, 1, 2, 3, 4, 5, 6, 7, 8, 9] rfl) (va_recv hK hP (ci := 0) (q0 := 0) rfl rfl) hS rfl hl.1 rfl (Nat.le_of_ble_eq_true rfl) dL_all_61 ⟨Nat.le_of_ble_eq_true rfl, Nat.le_of_ble_eq_true rfl⟩ (fun r9 H locs h_61 hP hS => ?_)
        obtain rfl := h_61
        refine lv_if_eq (x := (bi (sLim F k))) (tgt := 73) hx hb dL_all_64 (by decide) (fun c_64 => ?_) (fun c_64 => ?_)
        · have c_64 := bi_e0.mp c_64
          refine lv_lconst (v := 0) hx hb dL_all_73 rfl ?_
          refine lv_ladd hx hb (x := (((1000003 * (aH F n k)) + ((F 7 k).toInt64)) + (257 * ((nI (sAt F n k (F 7 k))).toInt64)))) (y := 0) dL_all_74 ?_
          refine lv_aload_n hx hb dL_all_75 rfl (lv_at hl 2 rfl) ?_
          refine lv_iload_n hx hb dL_all_76 rfl (lv_at hl 0 rfl) ?_
          refine ro_V (As := [.int (nI k)]) (rest := [.long ((((1000003 * (aH F n k)) + ((F 7 k).toInt64)) + (257 * ((nI (sAt F n k (F 7 k))).toInt64))) + 0)]) ⟨hx, hb, hml, hown, hts⟩ (v_isExcepted l D q F n R_19 cI cZ k hw hk33) (cwV 1 hts gL_all_X0_isExcepted rfl rfl rfl (by decide +kernel) ⟨Nat.le_of_ble_eq_true rfl, Nat.le_of_ble_eq_true rfl⟩) hK hP (hP.sub [0, 1, 2, 3, 4, 5, 6, 7, 8, 9] rfl) (va_recv hK hP (ci := 0) (q0 := 0) rfl rfl) hS rfl hl.1 rfl (Nat.le_of_ble_eq_true rfl) dL_all_77 ⟨Nat.le_of_ble_eq_true rfl, Nat.le_of_ble_eq_true rfl⟩ (fun r9 H locs h_77 hP hS => ?_)
          obtain rfl := h_77
          refine lv_if_eq (x := (bi (sExc F k))) (tgt := 89) hx hb dL_all_80 (by decide) (fun c_80 => ?_) (fun c_80 => ?_)
          · have c_80 := bi_e0.mp c_80
            refine lv_lconst (v := 0) hx hb dL_all_89 rfl ?_
            refine lv_ladd hx hb (x := ((((1000003 * (aH F n k)) + ((F 7 k).toInt64)) + (257 * ((nI (sAt F n k (F 7 k))).toInt64))) + 0)) (y := 0) dL_all_90 ?_
            refine lv_aload_n hx hb dL_all_91 rfl (lv_at hl 2 rfl) ?_
            refine lv_iload_n hx hb dL_all_92 rfl (lv_at hl 0 rfl) ?_
            refine ro_V (As := [.int (nI k)]) (rest := [.long (((((1000003 * (aH F n k)) + ((F 7 k).toInt64)) + (257 * ((nI (sAt F n k (F 7 k))).toInt64))) + 0) + 0)]) ⟨hx, hb, hml, hown, hts⟩ (v_isMisplaced l D q F n R_19 cI cZ k hw hk33) (cwV 1 hts gL_all_X0_isMisplaced rfl rfl rfl (by decide +kernel) ⟨Nat.le_of_ble_eq_true rfl, Nat.le_of_ble_eq_true rfl⟩) hK hP (hP.sub [0, 1, 2, 3, 4, 5, 6, 7, 8, 9] rfl) (va_recv hK hP (ci := 0) (q0 := 0) rfl rfl) hS rfl hl.1 rfl (Nat.le_of_ble_eq_true rfl) dL_all_93 ⟨Nat.le_of_ble_eq_true rfl, Nat.le_of_ble_eq_true rfl⟩ (fun r9 H locs h_93 hP hS => ?_)
            obtain rfl := h_93
            refine lv_if_eq (x := (bi (sMis F k (F 7 k)))) (tgt := 105) hx hb dL_all_96 (by decide) (fun c_96 => ?_) (fun c_96 => ?_)
            · have c_96 := bi_e0.mp c_96
              refine lv_lconst (v := 0) hx hb dL_all_105 rfl ?_
              refine lv_ladd hx hb (x := (((((1000003 * (aH F n k)) + ((F 7 k).toInt64)) + (257 * ((nI (sAt F n k (F 7 k))).toInt64))) + 0) + 0)) (y := 0) dL_all_106 ?_
              refine lv_lstore_n (lv' := [(1, .long ((((((1000003 * (aH F n k)) + ((F 7 k).toInt64)) + (257 * ((nI (sAt F n k (F 7 k))).toInt64))) + 0) + 0) + 0)), (3, .int (nI k)), (0, .ref (q 9))]) hx hb dL_all_107 rfl hl (by decide) rfl (fun ls hl => ?_)
              refine lv_iinc (v := (nI (k + 1))) (lv' := [(3, .int (nI (k + 1))), (1, .long ((((((1000003 * (aH F n k)) + ((F 7 k).toInt64)) + (257 * ((nI (sAt F n k (F 7 k))).toInt64))) + 0) + 0) + 0)), (0, .ref (q 9))]) hx hb dL_all_108 hl (k := 1) rfl (nI_add k 1) (by decide) rfl (fun ls hl => ?_)
              refine lv_goto (tgt := 28) hx hb dL_all_111 (by decide) ?_
              have e1 : ((((((1000003 * (aH F n k)) + ((F 7 k).toInt64)) + (257 * ((nI (sAt F n k (F 7 k))).toInt64))) + 0) + 0) + 0) = (aH F n (k + 1)) := by simp only [aH, c_64, c_80, c_96, reduceIte, Bool.false_eq_true]
              have hl : lv_has ls 4 [(3, .int (nI (k + 1))), (1, .long (aH F n (k + 1))), (0, .ref (q 9))] := by rw [← e1]; exact hl
              exact ih28 (k + 1) _ _ _ (by omega) (by omega) hP hD hS (lv_sub hl [0, 1, 2] rfl)
            · have c_96 := bi_n0.mp c_96
              refine lv_ldc2 hx hb hown (hts (.constantLong RL 104 (17)) (by decide +kernel)) dL_all_99 ?_
              refine lv_goto (tgt := 106) hx hb dL_all_102 (by decide) ?_
              refine lv_ladd hx hb (x := (((((1000003 * (aH F n k)) + ((F 7 k).toInt64)) + (257 * ((nI (sAt F n k (F 7 k))).toInt64))) + 0) + 0)) (y := 17) dL_all_106 ?_
              refine lv_lstore_n (lv' := [(1, .long ((((((1000003 * (aH F n k)) + ((F 7 k).toInt64)) + (257 * ((nI (sAt F n k (F 7 k))).toInt64))) + 0) + 0) + 17)), (3, .int (nI k)), (0, .ref (q 9))]) hx hb dL_all_107 rfl hl (by decide) rfl (fun ls hl => ?_)
              refine lv_iinc (v := (nI (k + 1))) (lv' := [(3, .int (nI (k + 1))), (1, .long ((((((1000003 * (aH F n k)) + ((F 7 k).toInt64)) + (257 * ((nI (sAt F n k (F 7 k))).toInt64))) + 0) + 0) + 17)), (0, .ref (q 9))]) hx hb dL_all_108 hl (k := 1) rfl (nI_add k 1) (by decide) rfl (fun ls hl => ?_)
              refine lv_goto (tgt := 28) hx hb dL_all_111 (by decide) ?_
              have e1 : ((((((1000003 * (aH F n k)) + ((F 7 k).toInt64)) + (257 * ((nI (sAt F n k (F 7 k))).toInt64))) + 0) + 0) + 17) = (aH F n (k + 1)) := by simp only [aH, c_64, c_80, c_96, reduceIte, Bool.false_eq_true]
              have hl : lv_has ls 4 [(3, .int (nI (k + 1))), (1, .long (aH F n (k + 1))), (0, .ref (q 9))] := by rw [← e1]; exact hl
              exact ih28 (k + 1) _ _ _ (by omega) (by omega) hP hD hS (lv_sub hl [0, 1, 2] rfl)
          · have c_80 := bi_n0.mp c_80
            refine lv_ldc2 hx hb hown (hts (.constantLong RL 102 (11)) (by decide +kernel)) dL_all_83 ?_
            refine lv_goto (tgt := 90) hx hb dL_all_86 (by decide) ?_
            refine lv_ladd hx hb (x := ((((1000003 * (aH F n k)) + ((F 7 k).toInt64)) + (257 * ((nI (sAt F n k (F 7 k))).toInt64))) + 0)) (y := 11) dL_all_90 ?_
            refine lv_aload_n hx hb dL_all_91 rfl (lv_at hl 2 rfl) ?_
            refine lv_iload_n hx hb dL_all_92 rfl (lv_at hl 0 rfl) ?_
            refine ro_V (As := [.int (nI k)]) (rest := [.long (((((1000003 * (aH F n k)) + ((F 7 k).toInt64)) + (257 * ((nI (sAt F n k (F 7 k))).toInt64))) + 0) + 11)]) ⟨hx, hb, hml, hown, hts⟩ (v_isMisplaced l D q F n R_19 cI cZ k hw hk33) (cwV 1 hts gL_all_X0_isMisplaced rfl rfl rfl (by decide +kernel) ⟨Nat.le_of_ble_eq_true rfl, Nat.le_of_ble_eq_true rfl⟩) hK hP (hP.sub [0, 1, 2, 3, 4, 5, 6, 7, 8, 9] rfl) (va_recv hK hP (ci := 0) (q0 := 0) rfl rfl) hS rfl hl.1 rfl (Nat.le_of_ble_eq_true rfl) dL_all_93 ⟨Nat.le_of_ble_eq_true rfl, Nat.le_of_ble_eq_true rfl⟩ (fun r9 H locs h_93 hP hS => ?_)
            obtain rfl := h_93
            refine lv_if_eq (x := (bi (sMis F k (F 7 k)))) (tgt := 105) hx hb dL_all_96 (by decide) (fun c_96 => ?_) (fun c_96 => ?_)
            · have c_96 := bi_e0.mp c_96
              refine lv_lconst (v := 0) hx hb dL_all_105 rfl ?_
              refine lv_ladd hx hb (x := (((((1000003 * (aH F n k)) + ((F 7 k).toInt64)) + (257 * ((nI (sAt F n k (F 7 k))).toInt64))) + 0) + 11)) (y := 0) dL_all_106 ?_
              refine lv_lstore_n (lv' := [(1, .long ((((((1000003 * (aH F n k)) + ((F 7 k).toInt64)) + (257 * ((nI (sAt F n k (F 7 k))).toInt64))) + 0) + 11) + 0)), (3, .int (nI k)), (0, .ref (q 9))]) hx hb dL_all_107 rfl hl (by decide) rfl (fun ls hl => ?_)
              refine lv_iinc (v := (nI (k + 1))) (lv' := [(3, .int (nI (k + 1))), (1, .long ((((((1000003 * (aH F n k)) + ((F 7 k).toInt64)) + (257 * ((nI (sAt F n k (F 7 k))).toInt64))) + 0) + 11) + 0)), (0, .ref (q 9))]) hx hb dL_all_108 hl (k := 1) rfl (nI_add k 1) (by decide) rfl (fun ls hl => ?_)
              refine lv_goto (tgt := 28) hx hb dL_all_111 (by decide) ?_
              have e1 : ((((((1000003 * (aH F n k)) + ((F 7 k).toInt64)) + (257 * ((nI (sAt F n k (F 7 k))).toInt64))) + 0) + 11) + 0) = (aH F n (k + 1)) := by simp only [aH, c_64, c_80, c_96, reduceIte, Bool.false_eq_true]
              have hl : lv_has ls 4 [(3, .int (nI (k + 1))), (1, .long (aH F n (k + 1))), (0, .ref (q 9))] := by rw [← e1]; exact hl
              exact ih28 (k + 1) _ _ _ (by omega) (by omega) hP hD hS (lv_sub hl [0, 1, 2] rfl)
            · have c_96 := bi_n0.mp c_96
              refine lv_ldc2 hx hb hown (hts (.constantLong RL 104 (17)) (by decide +kernel)) dL_all_99 ?_
              refine lv_goto (tgt := 106) hx hb dL_all_102 (by decide) ?_
              refine lv_ladd hx hb (x := (((((1000003 * (aH F n k)) + ((F 7 k).toInt64)) + (257 * ((nI (sAt F n k (F 7 k))).toInt64))) + 0) + 11)) (y := 17) dL_all_106 ?_
              refine lv_lstore_n (lv' := [(1, .long ((((((1000003 * (aH F n k)) + ((F 7 k).toInt64)) + (257 * ((nI (sAt F n k (F 7 k))).toInt64))) + 0) + 11) + 17)), (3, .int (nI k)), (0, .ref (q 9))]) hx hb dL_all_107 rfl hl (by decide) rfl (fun ls hl => ?_)
              refine lv_iinc (v := (nI (k + 1))) (lv' := [(3, .int (nI (k + 1))), (1, .long ((((((1000003 * (aH F n k)) + ((F 7 k).toInt64)) + (257 * ((nI (sAt F n k (F 7 k))).toInt64))) + 0) + 11) + 17)), (0, .ref (q 9))]) hx hb dL_all_108 hl (k := 1) rfl (nI_add k 1) (by decide) rfl (fun ls hl => ?_)
              refine lv_goto (tgt := 28) hx hb dL_all_111 (by decide) ?_
              have e1 : ((((((1000003 * (aH F n k)) + ((F 7 k).toInt64)) + (257 * ((nI (sAt F n k (F 7 k))).toInt64))) + 0) + 11) + 17) = (aH F n (k + 1)) := by simp only [aH, c_64, c_80, c_96, reduceIte, Bool.false_eq_true]
              have hl : lv_has ls 4 [(3, .int (nI (k + 1))), (1, .long (aH F n (k + 1))), (0, .ref (q 9))] := by rw [← e1]; exact hl
              exact ih28 (k + 1) _ _ _ (by omega) (by omega) hP hD hS (lv_sub hl [0, 1, 2] rfl)
        · have c_64 := bi_n0.mp c_64
          refine lv_ldc2 hx hb hown (hts (.constantLong RL 100 (5)) (by decide +kernel)) dL_all_67 ?_
          refine lv_goto (tgt := 74) hx hb dL_all_70 (by decide) ?_
          refine lv_ladd hx hb (x := (((1000003 * (aH F n k)) + ((F 7 k).toInt64)) + (257 * ((nI (sAt F n k (F 7 k))).toInt64)))) (y := 5) dL_all_74 ?_
          refine lv_aload_n hx hb dL_all_75 rfl (lv_at hl 2 rfl) ?_
          refine lv_iload_n hx hb dL_all_76 rfl (lv_at hl 0 rfl) ?_
          refine ro_V (As := [.int (nI k)]) (rest := [.long ((((1000003 * (aH F n k)) + ((F 7 k).toInt64)) + (257 * ((nI (sAt F n k (F 7 k))).toInt64))) + 5)]) ⟨hx, hb, hml, hown, hts⟩ (v_isExcepted l D q F n R_19 cI cZ k hw hk33) (cwV 1 hts gL_all_X0_isExcepted rfl rfl rfl (by decide +kernel) ⟨Nat.le_of_ble_eq_true rfl, Nat.le_of_ble_eq_true rfl⟩) hK hP (hP.sub [0, 1, 2, 3, 4, 5, 6, 7, 8, 9] rfl) (va_recv hK hP (ci := 0) (q0 := 0) rfl rfl) hS rfl hl.1 rfl (Nat.le_of_ble_eq_true rfl) dL_all_77 ⟨Nat.le_of_ble_eq_true rfl, Nat.le_of_ble_eq_true rfl⟩ (fun r9 H locs h_77 hP hS => ?_)
          obtain rfl := h_77
          refine lv_if_eq (x := (bi (sExc F k))) (tgt := 89) hx hb dL_all_80 (by decide) (fun c_80 => ?_) (fun c_80 => ?_)
          · have c_80 := bi_e0.mp c_80
            refine lv_lconst (v := 0) hx hb dL_all_89 rfl ?_
            refine lv_ladd hx hb (x := ((((1000003 * (aH F n k)) + ((F 7 k).toInt64)) + (257 * ((nI (sAt F n k (F 7 k))).toInt64))) + 5)) (y := 0) dL_all_90 ?_
            refine lv_aload_n hx hb dL_all_91 rfl (lv_at hl 2 rfl) ?_
            refine lv_iload_n hx hb dL_all_92 rfl (lv_at hl 0 rfl) ?_
            refine ro_V (As := [.int (nI k)]) (rest := [.long (((((1000003 * (aH F n k)) + ((F 7 k).toInt64)) + (257 * ((nI (sAt F n k (F 7 k))).toInt64))) + 5) + 0)]) ⟨hx, hb, hml, hown, hts⟩ (v_isMisplaced l D q F n R_19 cI cZ k hw hk33) (cwV 1 hts gL_all_X0_isMisplaced rfl rfl rfl (by decide +kernel) ⟨Nat.le_of_ble_eq_true rfl, Nat.le_of_ble_eq_true rfl⟩) hK hP (hP.sub [0, 1, 2, 3, 4, 5, 6, 7, 8, 9] rfl) (va_recv hK hP (ci := 0) (q0 := 0) rfl rfl) hS rfl hl.1 rfl (Nat.le_of_ble_eq_true rfl) dL_all_93 ⟨Nat.le_of_ble_eq_true rfl, Nat.le_of_ble_eq_true rfl⟩ (fun r9 H locs h_93 hP hS => ?_)
            obtain rfl := h_93
            refine lv_if_eq (x := (bi (sMis F k (F 7 k)))) (tgt := 105) hx hb dL_all_96 (by decide) (fun c_96 => ?_) (fun c_96 => ?_)
            · have c_96 := bi_e0.mp c_96
              refine lv_lconst (v := 0) hx hb dL_all_105 rfl ?_
              refine lv_ladd hx hb (x := (((((1000003 * (aH F n k)) + ((F 7 k).toInt64)) + (257 * ((nI (sAt F n k (F 7 k))).toInt64))) + 5) + 0)) (y := 0) dL_all_106 ?_
              refine lv_lstore_n (lv' := [(1, .long ((((((1000003 * (aH F n k)) + ((F 7 k).toInt64)) + (257 * ((nI (sAt F n k (F 7 k))).toInt64))) + 5) + 0) + 0)), (3, .int (nI k)), (0, .ref (q 9))]) hx hb dL_all_107 rfl hl (by decide) rfl (fun ls hl => ?_)
              refine lv_iinc (v := (nI (k + 1))) (lv' := [(3, .int (nI (k + 1))), (1, .long ((((((1000003 * (aH F n k)) + ((F 7 k).toInt64)) + (257 * ((nI (sAt F n k (F 7 k))).toInt64))) + 5) + 0) + 0)), (0, .ref (q 9))]) hx hb dL_all_108 hl (k := 1) rfl (nI_add k 1) (by decide) rfl (fun ls hl => ?_)
              refine lv_goto (tgt := 28) hx hb dL_all_111 (by decide) ?_
              have e1 : ((((((1000003 * (aH F n k)) + ((F 7 k).toInt64)) + (257 * ((nI (sAt F n k (F 7 k))).toInt64))) + 5) + 0) + 0) = (aH F n (k + 1)) := by simp only [aH, c_64, c_80, c_96, reduceIte, Bool.false_eq_true]
              have hl : lv_has ls 4 [(3, .int (nI (k + 1))), (1, .long (aH F n (k + 1))), (0, .ref (q 9))] := by rw [← e1]; exact hl
              exact ih28 (k + 1) _ _ _ (by omega) (by omega) hP hD hS (lv_sub hl [0, 1, 2] rfl)
            · have c_96 := bi_n0.mp c_96
              refine lv_ldc2 hx hb hown (hts (.constantLong RL 104 (17)) (by decide +kernel)) dL_all_99 ?_
              refine lv_goto (tgt := 106) hx hb dL_all_102 (by decide) ?_
              refine lv_ladd hx hb (x := (((((1000003 * (aH F n k)) + ((F 7 k).toInt64)) + (257 * ((nI (sAt F n k (F 7 k))).toInt64))) + 5) + 0)) (y := 17) dL_all_106 ?_
              refine lv_lstore_n (lv' := [(1, .long ((((((1000003 * (aH F n k)) + ((F 7 k).toInt64)) + (257 * ((nI (sAt F n k (F 7 k))).toInt64))) + 5) + 0) + 17)), (3, .int (nI k)), (0, .ref (q 9))]) hx hb dL_all_107 rfl hl (by decide) rfl (fun ls hl => ?_)
              refine lv_iinc (v := (nI (k + 1))) (lv' := [(3, .int (nI (k + 1))), (1, .long ((((((1000003 * (aH F n k)) + ((F 7 k).toInt64)) + (257 * ((nI (sAt F n k (F 7 k))).toInt64))) + 5) + 0) + 17)), (0, .ref (q 9))]) hx hb dL_all_108 hl (k := 1) rfl (nI_add k 1) (by decide) rfl (fun ls hl => ?_)
              refine lv_goto (tgt := 28) hx hb dL_all_111 (by decide) ?_
              have e1 : ((((((1000003 * (aH F n k)) + ((F 7 k).toInt64)) + (257 * ((nI (sAt F n k (F 7 k))).toInt64))) + 5) + 0) + 17) = (aH F n (k + 1)) := by simp only [aH, c_64, c_80, c_96, reduceIte, Bool.false_eq_true]
              have hl : lv_has ls 4 [(3, .int (nI (k + 1))), (1, .long (aH F n (k + 1))), (0, .ref (q 9))] := by rw [← e1]; exact hl
              exact ih28 (k + 1) _ _ _ (by omega) (by omega) hP hD hS (lv_sub hl [0, 1, 2] rfl)
          · have c_80 := bi_n0.mp c_80
            refine lv_ldc2 hx hb hown (hts (.constantLong RL 102 (11)) (by decide +kernel)) dL_all_83 ?_
            refine lv_goto (tgt := 90) hx hb dL_all_86 (by decide) ?_
            refine lv_ladd hx hb (x := ((((1000003 * (aH F n k)) + ((F 7 k).toInt64)) + (257 * ((nI (sAt F n k (F 7 k))).toInt64))) + 5)) (y := 11) dL_all_90 ?_
            refine lv_aload_n hx hb dL_all_91 rfl (lv_at hl 2 rfl) ?_
            refine lv_iload_n hx hb dL_all_92 rfl (lv_at hl 0 rfl) ?_
            refine ro_V (As := [.int (nI k)]) (rest := [.long (((((1000003 * (aH F n k)) + ((F 7 k).toInt64)) + (257 * ((nI (sAt F n k (F 7 k))).toInt64))) + 5) + 11)]) ⟨hx, hb, hml, hown, hts⟩ (v_isMisplaced l D q F n R_19 cI cZ k hw hk33) (cwV 1 hts gL_all_X0_isMisplaced rfl rfl rfl (by decide +kernel) ⟨Nat.le_of_ble_eq_true rfl, Nat.le_of_ble_eq_true rfl⟩) hK hP (hP.sub [0, 1, 2, 3, 4, 5, 6, 7, 8, 9] rfl) (va_recv hK hP (ci := 0) (q0 := 0) rfl rfl) hS rfl hl.1 rfl (Nat.le_of_ble_eq_true rfl) dL_all_93 ⟨Nat.le_of_ble_eq_true rfl, Nat.le_of_ble_eq_true rfl⟩ (fun r9 H locs h_93 hP hS => ?_)
            obtain rfl := h_93
            refine lv_if_eq (x := (bi (sMis F k (F 7 k)))) (tgt := 105) hx hb dL_all_96 (by decide) (fun c_96 => ?_) (fun c_96 => ?_)
            · have c_96 := bi_e0.mp c_96
              refine lv_lconst (v := 0) hx hb dL_all_105 rfl ?_
              refine lv_ladd hx hb (x := (((((1000003 * (aH F n k)) + ((F 7 k).toInt64)) + (257 * ((nI (sAt F n k (F 7 k))).toInt64))) + 5) + 11)) (y := 0) dL_all_106 ?_
              refine lv_lstore_n (lv' := [(1, .long ((((((1000003 * (aH F n k)) + ((F 7 k).toInt64)) + (257 * ((nI (sAt F n k (F 7 k))).toInt64))) + 5) + 11) + 0)), (3, .int (nI k)), (0, .ref (q 9))]) hx hb dL_all_107 rfl hl (by decide) rfl (fun ls hl => ?_)
              refine lv_iinc (v := (nI (k + 1))) (lv' := [(3, .int (nI (k + 1))), (1, .long ((((((1000003 * (aH F n k)) + ((F 7 k).toInt64)) + (257 * ((nI (sAt F n k (F 7 k))).toInt64))) + 5) + 11) + 0)), (0, .ref (q 9))]) hx hb dL_all_108 hl (k := 1) rfl (nI_add k 1) (by decide) rfl (fun ls hl => ?_)
              refine lv_goto (tgt := 28) hx hb dL_all_111 (by decide) ?_
              have e1 : ((((((1000003 * (aH F n k)) + ((F 7 k).toInt64)) + (257 * ((nI (sAt F n k (F 7 k))).toInt64))) + 5) + 11) + 0) = (aH F n (k + 1)) := by simp only [aH, c_64, c_80, c_96, reduceIte, Bool.false_eq_true]
              have hl : lv_has ls 4 [(3, .int (nI (k + 1))), (1, .long (aH F n (k + 1))), (0, .ref (q 9))] := by rw [← e1]; exact hl
              exact ih28 (k + 1) _ _ _ (by omega) (by omega) hP hD hS (lv_sub hl [0, 1, 2] rfl)
            · have c_96 := bi_n0.mp c_96
              refine lv_ldc2 hx hb hown (hts (.constantLong RL 104 (17)) (by decide +kernel)) dL_all_99 ?_
              refine lv_goto (tgt := 106) hx hb dL_all_102 (by decide) ?_
              refine lv_ladd hx hb (x := (((((1000003 * (aH F n k)) + ((F 7 k).toInt64)) + (257 * ((nI (sAt F n k (F 7 k))).toInt64))) + 5) + 11)) (y := 17) dL_all_106 ?_
              refine lv_lstore_n (lv' := [(1, .long ((((((1000003 * (aH F n k)) + ((F 7 k).toInt64)) + (257 * ((nI (sAt F n k (F 7 k))).toInt64))) + 5) + 11) + 17)), (3, .int (nI k)), (0, .ref (q 9))]) hx hb dL_all_107 rfl hl (by decide) rfl (fun ls hl => ?_)
              refine lv_iinc (v := (nI (k + 1))) (lv' := [(3, .int (nI (k + 1))), (1, .long ((((((1000003 * (aH F n k)) + ((F 7 k).toInt64)) + (257 * ((nI (sAt F n k (F 7 k))).toInt64))) + 5) + 11) + 17)), (0, .ref (q 9))]) hx hb dL_all_108 hl (k := 1) rfl (nI_add k 1) (by decide) rfl (fun ls hl => ?_)
              refine lv_goto (tgt := 28) hx hb dL_all_111 (by decide) ?_
              have e1 : ((((((1000003 * (aH F n k)) + ((F 7 k).toInt64)) + (257 * ((nI (sAt F n k (F 7 k))).toInt64))) + 5) + 11) + 17) = (aH F n (k + 1)) := by simp only [aH, c_64, c_80, c_96, reduceIte, Bool.false_eq_true]
              have hl : lv_has ls 4 [(3, .int (nI (k + 1))), (1, .long (aH F n (k + 1))), (0, .ref (q 9))] := by rw [← e1]; exact hl
              exact ih28 (k + 1) _ _ _ (by omega) (by omega) hP hD hS (lv_sub hl [0, 1, 2] rfl)
  exact L28 _ 0 _ _ _ (Nat.lt_succ_self _) (by omega) hP hD hS (lv_sub hl [0, 1, 2] rfl)
set_option maxHeartbeats 8000000 in
set_option maxRecDepth 100000 in
theorem c_L_isPlaceFor (l : Launch) (D : va_G) (q : Nat → Nat) (F : Nat → Nat → Int32) (n : Nat) (R : Nat → Int32) (cI cZ : ClassId) (sz : Nat) (x : Nat) (pl : Nat) (hw : WF F n) (hx9 : x < n) (hp : pl < 48) : Met l yL_isPlaceFor wsL_isPlaceFor ({ frames := 7, cells := 0, slots := 0, locals := 178 }) (va_Pc [.ref (q 9), .int (nI x), .int (nI pl)] (wS D (wX q F (nI n) R cI cZ) (tIZ cI cZ) sz)) (va_Qi (fun (r : Int32) (u : Unit) => r = 1) (wB D (va_A (wX q F (nI n) R cI cZ) sz) (fun (u : Unit) => wX q F (nI n) R cI cZ)) (va_A (wX q F (nI n) R cI cZ) sz)) 0 0 (va_A (wX q F (nI n) R cI cZ) sz) := by
  refine in_of (Qc := fun A => (va_Qi (fun (r : Int32) (u : Unit) => r = 1) (wB D A (fun (u : Unit) => wX q F (nI n) R cI cZ)) A)) (own := RL) (cc := cL_isPlaceFor) (maxL := 8) (ret := (some .boolean)) (by decide) rfl rfl (Nat.le_of_ble_eq_true rfl) ?_
  intro p9 e9 s m9 a9 below meth c9 ls A hx hb hr hml hlocks hown hts hP hK hD hA hl hnm
  have hS : va_S A s.heap s.heap [] := va_S.rf
  have hl : lv_has ls 8 [(0, .ref (q 9)), (1, .int (nI x)), (2, .int (nI pl))] := hl
  have hn16 := hw.n
  refine lv_aload_n hx hb dL_isPlaceFor_0 rfl (lv_at hl 0 rfl) ?_
  refine lv_iload_n hx hb dL_isPlaceFor_1 rfl (lv_at hl 1 rfl) ?_
  refine ro_V (As := [.int (nI x)]) (rest := []) ⟨hx, hb, hml, hown, hts⟩ (v_placeOf l D q F n R cI cZ x hw hx9) (cwV 1 hts gL_isPlaceFor_X0_placeOf rfl rfl rfl (by decide +kernel) ⟨Nat.le_of_ble_eq_true rfl, Nat.le_of_ble_eq_true rfl⟩) hK hP (hP.sub [0, 1, 2, 3, 4, 5, 6, 7, 8, 9] rfl) (va_recv hK hP (ci := 0) (q0 := 0) rfl rfl) hS rfl hl.1 rfl (Nat.le_of_ble_eq_true rfl) dL_isPlaceFor_2 ⟨Nat.le_of_ble_eq_true rfl, Nat.le_of_ble_eq_true rfl⟩ (fun r9 H locs h_2 hP hS => ?_)
  obtain rfl := h_2
  refine lv_istore_n (lv' := [(3, .int (F 7 x)), (0, .ref (q 9)), (1, .int (nI x)), (2, .int (nI pl))]) hx hb dL_isPlaceFor_5 rfl hl (by decide) rfl (fun ls hl => ?_)
  refine lv_aload_n hx hb dL_isPlaceFor_6 rfl (lv_at hl 1 rfl) ?_
  refine lv_iload_n hx hb dL_isPlaceFor_7 rfl (lv_at hl 2 rfl) ?_
  refine ro_V (As := [.int (nI x)]) (rest := []) ⟨hx, hb, hml, hown, hts⟩ (v_placeFor l D q F n R cI cZ x hw hx9) (cwV 1 hts gL_isPlaceFor_X0_placeFor rfl rfl rfl (by decide +kernel) ⟨Nat.le_of_ble_eq_true rfl, Nat.le_of_ble_eq_true rfl⟩) hK hP (hP.sub [0, 1, 2, 3, 4, 5, 6, 7, 8, 9] rfl) (va_recv hK hP (ci := 0) (q0 := 0) rfl rfl) hS rfl hl.1 rfl (Nat.le_of_ble_eq_true rfl) dL_isPlaceFor_8 ⟨Nat.le_of_ble_eq_true rfl, Nat.le_of_ble_eq_true rfl⟩ (fun r9 H locs h_8 hP hS => ?_)
  obtain rfl := h_8
  refine lv_istore (lv' := [(4, .int (sFor F n x)), (3, .int (F 7 x)), (0, .ref (q 9)), (1, .int (nI x)), (2, .int (nI pl))]) hx hb dL_isPlaceFor_11 hl (by decide) rfl (fun ls hl => ?_)
  refine lv_aload_n hx hb dL_isPlaceFor_13 rfl (lv_at hl 2 rfl) ?_
  refine lv_iload_n hx hb dL_isPlaceFor_14 rfl (lv_at hl 3 rfl) ?_
  refine lv_iload_n hx hb dL_isPlaceFor_15 rfl (lv_at hl 4 rfl) ?_
  refine ro_V (As := [.int (nI x), .int (nI pl)]) (rest := []) ⟨hx, hb, hml, hown, hts⟩ (v_canPut l D q F n R cI cZ x (nI pl) hw hx9 (pl_in hp)) (cwV 2 hts gL_isPlaceFor_X0_canPut rfl rfl rfl (by decide +kernel) ⟨Nat.le_of_ble_eq_true rfl, Nat.le_of_ble_eq_true rfl⟩) hK hP (hP.sub [0, 1, 2, 3, 4, 5, 6, 7, 8, 9] rfl) (va_recv hK hP (ci := 0) (q0 := 0) rfl rfl) hS rfl hl.1 rfl (Nat.le_of_ble_eq_true rfl) dL_isPlaceFor_16 ⟨Nat.le_of_ble_eq_true rfl, Nat.le_of_ble_eq_true rfl⟩ (fun r9 H locs h_16 hP hS => ?_)
  obtain rfl := h_16
  refine lv_istore (lv' := [(5, .int (bi (sClean F n x (nI pl)))), (4, .int (sFor F n x)), (3, .int (F 7 x)), (0, .ref (q 9)), (1, .int (nI x)), (2, .int (nI pl))]) hx hb dL_isPlaceFor_19 hl (by decide) rfl (fun ls hl => ?_)
  refine lv_aload_n hx hb dL_isPlaceFor_21 rfl (lv_at hl 3 rfl) ?_
  refine lv_iload_n hx hb dL_isPlaceFor_22 rfl (lv_at hl 4 rfl) ?_
  refine lv_iload_n hx hb dL_isPlaceFor_23 rfl (lv_at hl 5 rfl) ?_
  refine wr_V (As := [.int (nI x), .int (nI pl)]) (rest := []) (wr := ([] : va_W)) ⟨hx, hb, hml, hown, hts⟩ (v_put l D q F n R cI cZ _ x (nI pl) hw hx9 (Or.inr (pl_in hp))) (cwV 2 hts gL_isPlaceFor_X0_put rfl rfl rfl (by decide +kernel) ⟨Nat.le_of_ble_eq_true rfl, Nat.le_of_ble_eq_true rfl⟩) hK hP hD hA [0, 1, 2, 3, 4, 5, 6, 7, 8, 9] [] rfl rfl (by decide) rfl (by decide) (by decide) (va_recv hK hP (ci := 0) (q0 := 0) rfl rfl) hS rfl hl.1 rfl (Nat.le_of_ble_eq_true rfl) dL_isPlaceFor_24 ⟨Nat.le_of_ble_eq_true rfl, Nat.le_of_ble_eq_true rfl⟩ (fun r9 u9 H locs h_24 hP hD hS => ?_)
  obtain ⟨rfl, rfl⟩ := h_24
  have hP : va_P D vwCl (wX q (fP F x (nI pl)) (nI n) R cI cZ) H := hP
  have hD : va_D A (wX q (fP F x (nI pl)) (nI n) R cI cZ) := hD
  refine lv_iload_n hx hb dL_isPlaceFor_27 rfl (lv_at hl 2 rfl) ?_
  refine lv_icmp_ne (x := (F 7 x)) (y := (F 7 x)) (tgt := 81) hx hb dL_isPlaceFor_28 (by decide) (fun k => (k rfl : False).elim) (fun c_28 => ?_)
  have J54 : ∀  (H : Heap) (locs : List Loc) (ls : Array Slot), va_P D vwCl (wX q (fP F x (nI pl)) (nI n) R cI cZ) H → va_D A (wX q (fP F x (nI pl)) (nI n) R cI cZ) → va_S A s.heap H locs → lv_has ls 8 [(0, .ref (q 9)), (1, .int (nI x)), (2, .int (nI pl)), (3, .int (F 7 x)), (4, .int (sFor F n x)), (5, .int (bi (sClean F n x (nI pl))))] → W p9 l e9 ({ frames := 7, cells := 0, slots := 0, locals := 178 }) s m9 a9 below meth c9 H locs (0) (0) (MQ below (va_Qi (fun (r : Int32) (u : Unit) => r = 1) (wB D A (fun (u : Unit) => wX q F (nI n) R cI cZ)) A) a9 s 0 0 A) (F0 m9 54 ls [.int (bi (sClean F n x (nI pl))), .int (bi (sClean F n x (nI pl)))]) := by
    intro  H locs ls  hP hD hS hl
    refine lv_icmp_ne (x := (bi (sClean F n x (nI pl)))) (y := (bi (sClean F n x (nI pl)))) (tgt := 81) hx hb dL_isPlaceFor_54 (by decide) (fun k => (k rfl : False).elim) (fun c_54 => ?_)
    refine lv_aload_n hx hb dL_isPlaceFor_57 rfl (lv_at hl 0 rfl) ?_
    refine lv_iload_n hx hb dL_isPlaceFor_58 rfl (lv_at hl 1 rfl) ?_
    refine ro_V (As := [.int (nI x)]) (rest := []) ⟨hx, hb, hml, hown, hts⟩ (v_placeFor l D q (fP F x (nI pl)) n R cI cZ x (wf_p hw (Or.inr ⟨pl, hp, rfl⟩)) hx9) (cwV 1 hts gL_isPlaceFor_X0_placeFor rfl rfl rfl (by decide +kernel) ⟨Nat.le_of_ble_eq_true rfl, Nat.le_of_ble_eq_true rfl⟩) hK hP (hP.sub [0, 1, 2, 3, 4, 5, 6, 7, 8, 9] rfl) (va_recv hK hP (ci := 0) (q0 := 0) rfl rfl) hS rfl hl.1 rfl (Nat.le_of_ble_eq_true rfl) dL_isPlaceFor_59 ⟨Nat.le_of_ble_eq_true rfl, Nat.le_of_ble_eq_true rfl⟩ (fun r9 H locs h_59 hP hS => ?_)
    obtain rfl := h_59
    refine W.eq (g2 := F0 m9 62 ls (.int (sFor F n x) :: [])) (congrArg (fun z => F0 m9 62 ls (Value.int z :: [])) (for_p)) ?_
    refine lv_iload hx hb dL_isPlaceFor_62 (lv_at hl 4 rfl) ?_
    refine lv_icmp_ne (x := (sFor F n x)) (y := (sFor F n x)) (tgt := 81) hx hb dL_isPlaceFor_64 (by decide) (fun k => (k rfl : False).elim) (fun c_64 => ?_)
    refine lv_aload_n hx hb dL_isPlaceFor_67 rfl (lv_at hl 0 rfl) ?_
    refine lv_iload_n hx hb dL_isPlaceFor_68 rfl (lv_at hl 1 rfl) ?_
    refine lv_iload_n hx hb dL_isPlaceFor_69 rfl (lv_at hl 3 rfl) ?_
    refine wr_V (As := [.int (nI x), .int (F 7 x)]) (rest := []) (wr := ([] : va_W)) ⟨hx, hb, hml, hown, hts⟩ (v_put l D q (fP F x (nI pl)) n R cI cZ _ x (F 7 x) (wf_p hw (Or.inr ⟨pl, hp, rfl⟩)) hx9 (okP_put (hw.p7 hx9))) (cwV 2 hts gL_isPlaceFor_X0_put rfl rfl rfl (by decide +kernel) ⟨Nat.le_of_ble_eq_true rfl, Nat.le_of_ble_eq_true rfl⟩) hK hP hD hA [0, 1, 2, 3, 4, 5, 6, 7, 8, 9] [] rfl rfl (by decide) rfl (by decide) (by decide) (va_recv hK hP (ci := 0) (q0 := 0) rfl rfl) hS rfl hl.1 rfl (Nat.le_of_ble_eq_true rfl) dL_isPlaceFor_70 ⟨Nat.le_of_ble_eq_true rfl, Nat.le_of_ble_eq_true rfl⟩ (fun r9 u9 H locs h_70 hP hD hS => ?_)
    obtain ⟨rfl, rfl⟩ := h_70
    have hP : va_P D vwCl (wX q (fP (fP F x (nI pl)) x (F 7 x)) (nI n) R cI cZ) H := hP
    have hD : va_D A (wX q (fP (fP F x (nI pl)) x (F 7 x)) (nI n) R cI cZ) := hD
    have eF9 : (fP (fP F x (nI pl)) x (F 7 x)) = F := fP_back
    rw [eF9] at hP hD
    clear eF9
    refine W.eq (g2 := F0 m9 73 ls (.int (nI pl) :: [])) (congrArg (fun z => F0 m9 73 ls (Value.int z :: [])) (fP_7)) ?_
    refine lv_iload_n hx hb dL_isPlaceFor_73 rfl (lv_at hl 2 rfl) ?_
    refine lv_icmp_ne (x := (nI pl)) (y := (nI pl)) (tgt := 81) hx hb dL_isPlaceFor_74 (by decide) (fun k => (k rfl : False).elim) (fun c_74 => ?_)
    refine lv_iconst (v := 1) hx hb dL_isPlaceFor_77 (by decide) ?_
    refine lv_goto (tgt := 82) hx hb dL_isPlaceFor_78 (by decide) ?_
    refine lv_istore (lv' := [(6, .int 1), (0, .ref (q 9)), (1, .int (nI x)), (2, .int (nI pl)), (3, .int (F 7 x)), (4, .int (sFor F n x)), (5, .int (bi (sClean F n x (nI pl))))]) hx hb dL_isPlaceFor_82 hl (by decide) rfl (fun ls hl => ?_)
    rcases (for_low (F := F) (n := n) (x := x)) with ⟨ef, hf⟩ | ⟨fd, hfd, ef, hf1, hf2⟩
    · rw [ef] at hl
      refine lv_iconst (v := 0) hx hb dL_isPlaceFor_84 (by decide) ?_
      refine lv_istore (lv' := [(7, .int 0), (6, .int 1), (0, .ref (q 9)), (1, .int (nI x)), (2, .int (nI pl)), (3, .int (F 7 x)), (4, .int (-1)), (5, .int (bi (sClean F n x (nI pl))))]) hx hb dL_isPlaceFor_85 hl (by decide) rfl (fun ls hl => ?_)
      have L87 : ∀ (d9 : Nat) (j : Nat) (H : Heap) (locs : List Loc) (ls : Array Slot), 48 - j < d9 → (j ≤ 48) → va_P D vwCl (wX q F (nI n) R cI cZ) H → va_D A (wX q F (nI n) R cI cZ) → va_S A s.heap H locs → lv_has ls 8 [(7, .int (nI j)), (6, .int 1), (0, .ref (q 9)), (1, .int (nI x)), (2, .int (nI pl)), (3, .int (F 7 x)), (4, .int (-1)), (5, .int (bi (sClean F n x (nI pl))))] → W p9 l e9 ({ frames := 7, cells := 0, slots := 0, locals := 178 }) s m9 a9 below meth c9 H locs (0) (0) (MQ below (va_Qi (fun (r : Int32) (u : Unit) => r = 1) (wB D A (fun (u : Unit) => wX q F (nI n) R cI cZ)) A) a9 s 0 0 A) (F0 m9 87 ls []) := by
        intro d9
        induction d9 with
        | zero => intro j H locs ls h9; exact absurd h9 (Nat.not_lt_zero _)
        | succ d9 ih87 =>
          intro j H locs ls hd87 hj hP hD hS hl
          refine lv_iload hx hb dL_isPlaceFor_87 (lv_at hl 0 rfl) ?_
          refine lv_iload hx hb dL_isPlaceFor_89 (lv_at hl 6 rfl) ?_
          refine lv_if_ge (x := (-1)) (tgt := 99) hx hb dL_isPlaceFor_91 (by decide) (fun k => absurd k (by decide)) (fun _ => ?_)
          refine lv_bipush (v := 48) hx hb dL_isPlaceFor_94 (by decide) ?_
          refine lv_goto (tgt := 101) hx hb dL_isPlaceFor_96 (by decide) ?_
          refine lv_icmp_ge (x := (nI j)) (y := 48) (tgt := 132) hx hb dL_isPlaceFor_101 (by decide) (fun c_101 => ?_) (fun c_101 => ?_)
          · have c_101 := nl_ge (k := j) (n := 48) c_101 (by omega) (by omega)
            refine lv_iload hx hb dL_isPlaceFor_132 (lv_at hl 1 rfl) ?_
            refine lv_if_eq (x := 1) (tgt := 172) hx hb dL_isPlaceFor_134 (by decide) (fun k => absurd k (by decide)) (fun _ => ?_)
            refine lv_iload hx hb dL_isPlaceFor_137 (lv_at hl 6 rfl) ?_
            refine lv_if_lt (x := (-1)) (tgt := 152) hx hb dL_isPlaceFor_139 (by decide) (fun _ => ?_) (fun k => absurd (by decide) k)
            refine lv_iload hx hb dL_isPlaceFor_152 (lv_at hl 7 rfl) ?_
            refine lv_if_eq (x := (bi (sClean F n x (nI pl)))) (tgt := 168) hx hb dL_isPlaceFor_154 (by decide) (fun c_154 => ?_) (fun k => (k (congrArg bi (hf pl hp)) : False).elim)
            refine lv_iconst (v := 1) hx hb dL_isPlaceFor_168 (by decide) ?_
            refine lv_goto (tgt := 173) hx hb dL_isPlaceFor_169 (by decide) ?_
            refine W.widen (k := 0) (n := 0) (by omega) (by omega) ?_
            exact W.zret hx hb hr zn1 (fun t ht9 hW => ⟨⟨_, (), rfl, (by show 1 = 1; exact rfl), by rw [ht9]; exact hP, hD⟩, hS.F ht9⟩) hS.2.2 dL_isPlaceFor_173
          · have c_101 := nl_lt (k := j) (n := 48) c_101 (by omega) (by omega)
            refine lv_iload hx hb dL_isPlaceFor_104 (lv_at hl 1 rfl) ?_
            refine lv_if_eq (x := 1) (tgt := 132) hx hb dL_isPlaceFor_106 (by decide) (fun k => absurd k (by decide)) (fun _ => ?_)
            refine lv_aload_n hx hb dL_isPlaceFor_109 rfl (lv_at hl 2 rfl) ?_
            refine lv_iload_n hx hb dL_isPlaceFor_110 rfl (lv_at hl 3 rfl) ?_
            refine lv_iload hx hb dL_isPlaceFor_111 (lv_at hl 0 rfl) ?_
            refine ro_V (As := [.int (nI x), .int (nI j)]) (rest := []) ⟨hx, hb, hml, hown, hts⟩ (v_canPut l D q F n R cI cZ x (nI j) hw hx9 (pl_in (by omega))) (cwV 2 hts gL_isPlaceFor_X0_canPut rfl rfl rfl (by decide +kernel) ⟨Nat.le_of_ble_eq_true rfl, Nat.le_of_ble_eq_true rfl⟩) hK hP (hP.sub [0, 1, 2, 3, 4, 5, 6, 7, 8, 9] rfl) (va_recv hK hP (ci := 0) (q0 := 0) rfl rfl) hS rfl hl.1 rfl (Nat.le_of_ble_eq_true rfl) dL_isPlaceFor_113 ⟨Nat.le_of_ble_eq_true rfl, Nat.le_of_ble_eq_true rfl⟩ (fun r9 H locs h_113 hP hS => ?_)
            obtain rfl := h_113
            refine bmergeN (B := (sClean F n x (nI j))) (t1 := 123) (t2 := 124) hx hb dL_isPlaceFor_116 (by decide) dL_isPlaceFor_119 dL_isPlaceFor_120 (by decide) dL_isPlaceFor_123 rfl ?_
            refine W.eq (g2 := F0 m9 124 ls (.int 1 :: [])) (congrArg (fun z => F0 m9 124 ls (Value.int z :: [])) ((by have h9 : sClean F n x (nI j) = false := hf j c_101; rw [h9]; rfl))) ?_
            refine lv_istore (lv' := [(6, .int 1), (7, .int (nI j)), (0, .ref (q 9)), (1, .int (nI x)), (2, .int (nI pl)), (3, .int (F 7 x)), (4, .int (-1)), (5, .int (bi (sClean F n x (nI pl))))]) hx hb dL_isPlaceFor_124 hl (by decide) rfl (fun ls hl => ?_)
            refine lv_iinc (v := (nI (j + 1))) (lv' := [(7, .int (nI (j + 1))), (6, .int 1), (0, .ref (q 9)), (1, .int (nI x)), (2, .int (nI pl)), (3, .int (F 7 x)), (4, .int (-1)), (5, .int (bi (sClean F n x (nI pl))))]) hx hb dL_isPlaceFor_126 hl (k := 1) rfl (nI_add j 1) (by decide) rfl (fun ls hl => ?_)
            refine lv_goto (tgt := 87) hx hb dL_isPlaceFor_129 (by decide) ?_
            exact ih87 (j + 1) _ _ _ (by omega) (by omega) hP hD hS (lv_sub hl [0, 1, 2, 3, 4, 5, 6, 7] rfl)
      exact L87 _ 0 _ _ _ (Nat.lt_succ_self _) (by omega) hP hD hS (lv_sub hl [0, 1, 2, 3, 4, 5, 6, 7] rfl)
    · rw [ef] at hl
      refine lv_iconst (v := 0) hx hb dL_isPlaceFor_84 (by decide) ?_
      refine lv_istore (lv' := [(7, .int 0), (6, .int 1), (0, .ref (q 9)), (1, .int (nI x)), (2, .int (nI pl)), (3, .int (F 7 x)), (4, .int (nI fd)), (5, .int (bi (sClean F n x (nI pl))))]) hx hb dL_isPlaceFor_85 hl (by decide) rfl (fun ls hl => ?_)
      have L87 : ∀ (d9 : Nat) (j : Nat) (H : Heap) (locs : List Loc) (ls : Array Slot), fd - j < d9 → (j ≤ fd) → va_P D vwCl (wX q F (nI n) R cI cZ) H → va_D A (wX q F (nI n) R cI cZ) → va_S A s.heap H locs → lv_has ls 8 [(7, .int (nI j)), (6, .int 1), (0, .ref (q 9)), (1, .int (nI x)), (2, .int (nI pl)), (3, .int (F 7 x)), (4, .int (nI fd)), (5, .int (bi (sClean F n x (nI pl))))] → W p9 l e9 ({ frames := 7, cells := 0, slots := 0, locals := 178 }) s m9 a9 below meth c9 H locs (0) (0) (MQ below (va_Qi (fun (r : Int32) (u : Unit) => r = 1) (wB D A (fun (u : Unit) => wX q F (nI n) R cI cZ)) A) a9 s 0 0 A) (F0 m9 87 ls []) := by
        intro d9
        induction d9 with
        | zero => intro j H locs ls h9; exact absurd h9 (Nat.not_lt_zero _)
        | succ d9 ih87 =>
          intro j H locs ls hd87 hj hP hD hS hl
          refine lv_iload hx hb dL_isPlaceFor_87 (lv_at hl 0 rfl) ?_
          refine lv_iload hx hb dL_isPlaceFor_89 (lv_at hl 6 rfl) ?_
          refine lv_if_ge (x := (nI fd)) (tgt := 99) hx hb dL_isPlaceFor_91 (by decide) (fun c_91 => ?_) (fun k => (k (nI_pos' (by omega)) : False).elim)
          refine lv_iload hx hb dL_isPlaceFor_99 (lv_at hl 6 rfl) ?_
          refine lv_icmp_ge (x := (nI j)) (y := (nI fd)) (tgt := 132) hx hb dL_isPlaceFor_101 (by decide) (fun c_101 => ?_) (fun c_101 => ?_)
          · have c_101 := nl_ge (k := j) (n := fd) c_101 (by omega) (by omega)
            refine lv_iload hx hb dL_isPlaceFor_132 (lv_at hl 1 rfl) ?_
            refine lv_if_eq (x := 1) (tgt := 172) hx hb dL_isPlaceFor_134 (by decide) (fun k => absurd k (by decide)) (fun _ => ?_)
            refine lv_iload hx hb dL_isPlaceFor_137 (lv_at hl 6 rfl) ?_
            refine lv_if_lt (x := (nI fd)) (tgt := 152) hx hb dL_isPlaceFor_139 (by decide) (fun k => (nI_pos (by omega) k : False).elim) (fun c_139 => ?_)
            refine lv_aload_n hx hb dL_isPlaceFor_142 rfl (lv_at hl 2 rfl) ?_
            refine lv_iload_n hx hb dL_isPlaceFor_143 rfl (lv_at hl 3 rfl) ?_
            refine lv_iload hx hb dL_isPlaceFor_144 (lv_at hl 6 rfl) ?_
            refine ro_V (As := [.int (nI x), .int (nI fd)]) (rest := []) ⟨hx, hb, hml, hown, hts⟩ (v_canPut l D q F n R cI cZ x (nI fd) hw hx9 (pl_in hfd)) (cwV 2 hts gL_isPlaceFor_X0_canPut rfl rfl rfl (by decide +kernel) ⟨Nat.le_of_ble_eq_true rfl, Nat.le_of_ble_eq_true rfl⟩) hK hP (hP.sub [0, 1, 2, 3, 4, 5, 6, 7, 8, 9] rfl) (va_recv hK hP (ci := 0) (q0 := 0) rfl rfl) hS rfl hl.1 rfl (Nat.le_of_ble_eq_true rfl) dL_isPlaceFor_146 ⟨Nat.le_of_ble_eq_true rfl, Nat.le_of_ble_eq_true rfl⟩ (fun r9 H locs h_146 hP hS => ?_)
            obtain rfl := h_146
            refine lv_if_eq (x := (bi (sClean F n x (nI fd)))) (tgt := 172) hx hb dL_isPlaceFor_149 (by decide) (fun k => (bi_no hf1 k : False).elim) (fun c_149 => ?_)
            refine lv_iload hx hb dL_isPlaceFor_152 (lv_at hl 7 rfl) ?_
            refine lv_if_eq (x := (bi (sClean F n x (nI pl)))) (tgt := 168) hx hb dL_isPlaceFor_154 (by decide) (fun c_154 => ?_) (fun c_154 => ?_)
            · have c_154 := bi_e0.mp c_154
              refine lv_iconst (v := 1) hx hb dL_isPlaceFor_168 (by decide) ?_
              refine lv_goto (tgt := 173) hx hb dL_isPlaceFor_169 (by decide) ?_
              refine W.widen (k := 0) (n := 0) (by omega) (by omega) ?_
              exact W.zret hx hb hr zn1 (fun t ht9 hW => ⟨⟨_, (), rfl, (by show 1 = 1; exact rfl), by rw [ht9]; exact hP, hD⟩, hS.F ht9⟩) hS.2.2 dL_isPlaceFor_173
            · have c_154 := bi_n0.mp c_154
              refine lv_iload hx hb dL_isPlaceFor_157 (lv_at hl 6 rfl) ?_
              refine lv_if_lt (x := (nI fd)) (tgt := 172) hx hb dL_isPlaceFor_159 (by decide) (fun k => (nI_pos (by omega) k : False).elim) (fun c_159 => ?_)
              refine lv_iload hx hb dL_isPlaceFor_162 (lv_at hl 6 rfl) ?_
              refine lv_iload_n hx hb dL_isPlaceFor_164 rfl (lv_at hl 4 rfl) ?_
              refine lv_icmp_gt (x := (nI fd)) (y := (nI pl)) (tgt := 172) hx hb dL_isPlaceFor_165 (by decide) (fun k => (by have h9 : sClean F n x (nI pl) = false := hf2 pl (nt_lt k (by omega) (by omega)); rw [c_154] at h9; exact absurd h9 (by decide) : False).elim) (fun c_165 => ?_)
              refine lv_iconst (v := 1) hx hb dL_isPlaceFor_168 (by decide) ?_
              refine lv_goto (tgt := 173) hx hb dL_isPlaceFor_169 (by decide) ?_
              refine W.widen (k := 0) (n := 0) (by omega) (by omega) ?_
              exact W.zret hx hb hr zn1 (fun t ht9 hW => ⟨⟨_, (), rfl, (by show 1 = 1; exact rfl), by rw [ht9]; exact hP, hD⟩, hS.F ht9⟩) hS.2.2 dL_isPlaceFor_173
          · have c_101 := nl_lt (k := j) (n := fd) c_101 (by omega) (by omega)
            refine lv_iload hx hb dL_isPlaceFor_104 (lv_at hl 1 rfl) ?_
            refine lv_if_eq (x := 1) (tgt := 132) hx hb dL_isPlaceFor_106 (by decide) (fun k => absurd k (by decide)) (fun _ => ?_)
            refine lv_aload_n hx hb dL_isPlaceFor_109 rfl (lv_at hl 2 rfl) ?_
            refine lv_iload_n hx hb dL_isPlaceFor_110 rfl (lv_at hl 3 rfl) ?_
            refine lv_iload hx hb dL_isPlaceFor_111 (lv_at hl 0 rfl) ?_
            refine ro_V (As := [.int (nI x), .int (nI j)]) (rest := []) ⟨hx, hb, hml, hown, hts⟩ (v_canPut l D q F n R cI cZ x (nI j) hw hx9 (pl_in (by omega))) (cwV 2 hts gL_isPlaceFor_X0_canPut rfl rfl rfl (by decide +kernel) ⟨Nat.le_of_ble_eq_true rfl, Nat.le_of_ble_eq_true rfl⟩) hK hP (hP.sub [0, 1, 2, 3, 4, 5, 6, 7, 8, 9] rfl) (va_recv hK hP (ci := 0) (q0 := 0) rfl rfl) hS rfl hl.1 rfl (Nat.le_of_ble_eq_true rfl) dL_isPlaceFor_113 ⟨Nat.le_of_ble_eq_true rfl, Nat.le_of_ble_eq_true rfl⟩ (fun r9 H locs h_113 hP hS => ?_)
            obtain rfl := h_113
            refine bmergeN (B := (sClean F n x (nI j))) (t1 := 123) (t2 := 124) hx hb dL_isPlaceFor_116 (by decide) dL_isPlaceFor_119 dL_isPlaceFor_120 (by decide) dL_isPlaceFor_123 rfl ?_
            refine W.eq (g2 := F0 m9 124 ls (.int 1 :: [])) (congrArg (fun z => F0 m9 124 ls (Value.int z :: [])) ((by have h9 : sClean F n x (nI j) = false := hf2 j c_101; rw [h9]; rfl))) ?_
            refine lv_istore (lv' := [(6, .int 1), (7, .int (nI j)), (0, .ref (q 9)), (1, .int (nI x)), (2, .int (nI pl)), (3, .int (F 7 x)), (4, .int (nI fd)), (5, .int (bi (sClean F n x (nI pl))))]) hx hb dL_isPlaceFor_124 hl (by decide) rfl (fun ls hl => ?_)
            refine lv_iinc (v := (nI (j + 1))) (lv' := [(7, .int (nI (j + 1))), (6, .int 1), (0, .ref (q 9)), (1, .int (nI x)), (2, .int (nI pl)), (3, .int (F 7 x)), (4, .int (nI fd)), (5, .int (bi (sClean F n x (nI pl))))]) hx hb dL_isPlaceFor_126 hl (k := 1) rfl (nI_add j 1) (by decide) rfl (fun ls hl => ?_)
            refine lv_goto (tgt := 87) hx hb dL_isPlaceFor_129 (by decide) ?_
            exact ih87 (j + 1) _ _ _ (by omega) (by omega) hP hD hS (lv_sub hl [0, 1, 2, 3, 4, 5, 6, 7] rfl)
      exact L87 _ 0 _ _ _ (Nat.lt_succ_self _) (by omega) hP hD hS (lv_sub hl [0, 1, 2, 3, 4, 5, 6, 7] rfl)
  refine lv_iload hx hb dL_isPlaceFor_31 (lv_at hl 0 rfl) ?_
  refine lv_aload_n hx hb dL_isPlaceFor_33 rfl (lv_at hl 3 rfl) ?_
  refine lv_iload_n hx hb dL_isPlaceFor_34 rfl (lv_at hl 4 rfl) ?_
  refine ro_V (As := [.int (nI x)]) (rest := [.int (bi (sClean F n x (nI pl)))]) ⟨hx, hb, hml, hown, hts⟩ (v_inBreachWith l D q (fP F x (nI pl)) n R cI cZ x (wf_p hw (Or.inr ⟨pl, hp, rfl⟩)) hx9) (cwV 1 hts gL_isPlaceFor_X0_inBreachWith rfl rfl rfl (by decide +kernel) ⟨Nat.le_of_ble_eq_true rfl, Nat.le_of_ble_eq_true rfl⟩) hK hP (hP.sub [0, 1, 2, 3, 4, 5, 6, 7, 8, 9] rfl) (va_recv hK hP (ci := 0) (q0 := 0) rfl rfl) hS rfl hl.1 rfl (Nat.le_of_ble_eq_true rfl) dL_isPlaceFor_35 ⟨Nat.le_of_ble_eq_true rfl, Nat.le_of_ble_eq_true rfl⟩ (fun r9 H locs h_35 hP hS => ?_)
  obtain rfl := h_35
  refine W.eq (g2 := F0 m9 38 ls (.int (nI (sAt F n x (nI pl))) :: [.int (bi (sClean F n x (nI pl)))])) (congrArg (fun z => F0 m9 38 ls (Value.int z :: [.int (bi (sClean F n x (nI pl)))])) (congrArg nI (by rw [fP_7]; exact at_p))) ?_
  refine lv_if_ne (x := (nI (sAt F n x (nI pl)))) (tgt := 53) hx hb dL_isPlaceFor_38 (by decide) (fun c_38 => ?_) (fun c_38 => ?_)
  · skip
    refine lv_iconst (v := 0) hx hb dL_isPlaceFor_53 (by decide) ?_
    refine W.eq (g2 := F0 m9 54 ls (.int (bi (sClean F n x (nI pl))) :: [.int (bi (sClean F n x (nI pl)))])) (congrArg (fun z => F0 m9 54 ls (Value.int z :: [.int (bi (sClean F n x (nI pl)))])) (cl_bad c_38)) ?_
    exact J54  _ _ _  hP hD hS (lv_sub hl [3, 4, 5, 2, 1, 0] rfl)
  · skip
    refine lv_aload_n hx hb dL_isPlaceFor_41 rfl (lv_at hl 3 rfl) ?_
    refine lv_iload_n hx hb dL_isPlaceFor_42 rfl (lv_at hl 4 rfl) ?_
    refine ro_V (As := [.int (nI x)]) (rest := [.int (bi (sClean F n x (nI pl)))]) ⟨hx, hb, hml, hown, hts⟩ (v_isMisplaced l D q (fP F x (nI pl)) n R cI cZ x (wf_p hw (Or.inr ⟨pl, hp, rfl⟩)) hx9) (cwV 1 hts gL_isPlaceFor_X0_isMisplaced rfl rfl rfl (by decide +kernel) ⟨Nat.le_of_ble_eq_true rfl, Nat.le_of_ble_eq_true rfl⟩) hK hP (hP.sub [0, 1, 2, 3, 4, 5, 6, 7, 8, 9] rfl) (va_recv hK hP (ci := 0) (q0 := 0) rfl rfl) hS rfl hl.1 rfl (Nat.le_of_ble_eq_true rfl) dL_isPlaceFor_43 ⟨Nat.le_of_ble_eq_true rfl, Nat.le_of_ble_eq_true rfl⟩ (fun r9 H locs h_43 hP hS => ?_)
    obtain rfl := h_43
    refine W.eq (g2 := F0 m9 46 ls (.int (bi (sMis F x (nI pl))) :: [.int (bi (sClean F n x (nI pl)))])) (congrArg (fun z => F0 m9 46 ls (Value.int z :: [.int (bi (sClean F n x (nI pl)))])) (congrArg bi (by rw [fP_7]; exact mis_p))) ?_
    refine bmergeN (B := (sMis F x (nI pl))) (t1 := 53) (t2 := 54) hx hb dL_isPlaceFor_46 (by decide) dL_isPlaceFor_49 dL_isPlaceFor_50 (by decide) dL_isPlaceFor_53 rfl ?_
    refine W.eq (g2 := F0 m9 54 ls (.int (bi (sClean F n x (nI pl))) :: [.int (bi (sClean F n x (nI pl)))])) (congrArg (fun z => F0 m9 54 ls (Value.int z :: [.int (bi (sClean F n x (nI pl)))])) (cl_not c_38)) ?_
    exact J54  _ _ _  hP hD hS (lv_sub hl [3, 4, 5, 2, 1, 0] rfl)

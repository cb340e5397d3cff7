/-! isLeaving -/
/-- the desk, and the law's row of one int -/
abbrev wC (q : Nat → Nat) (F : Nat → Nat → Int32) (n : Int32) (R : Nat → Int32) (cI cZ : ClassId) (qm : Nat) (C : Nat → Int32) : va_W := wX q F n R cI cZ ++ [(qm, .inl (cI, 1, .inl C))]
set_option maxHeartbeats 8000000 in
set_option maxRecDepth 100000 in
theorem c_L_isLeaving (l : Launch) (D : va_G) (q : Nat → Nat) (F : Nat → Nat → Int32) (n : Nat) (R : Nat → Int32) (cI cZ : ClassId) (qm : Nat) (C : Nat → Int32) (sz : Nat) (hw : WF F n) (hs : SY F) (hm : C 0 = nI n) : Met l yL_isLeaving wsL_isLeaving ({ frames := 20, cells := 1, slots := 16, locals := 843 }) (va_Pc [.ref (q 9), .ref qm] (wS D (wC q F (nI n) R cI cZ qm C) (tIZ cI cZ) sz)) (va_Qi (fun (r : Int32) (u : Nat → Int32) => r = 1) (wB D (va_A (wC q F (nI n) R cI cZ qm C) sz) (fun (u : Nat → Int32) => wC q F (nI n) u cI cZ qm C)) (va_A (wC q F (nI n) R cI cZ qm C) sz)) 1 16 (va_A (wC q F (nI n) R cI cZ qm C) sz) := by
  refine in_of (Qc := fun A => (va_Qi (fun (r : Int32) (u : Nat → Int32) => r = 1) (wB D A (fun (u : Nat → Int32) => wC q F (nI n) u cI cZ qm C)) A)) (own := RL) (cc := cL_isLeaving) (maxL := 8) (ret := (some .boolean)) (by decide) rfl rfl (Nat.le_of_ble_eq_true rfl) ?_
  intro p9 e9 s m9 a9 below meth c9 ls A hx hb hr hml hlocks hown hts hP hK hD hA hl hnm
  have hS : va_S A s.heap s.heap [] := va_S.rf
  have hl : lv_has ls 8 [(0, .ref (q 9)), (1, .ref qm)] := hl
  have hn16 := hw.n
  have hpc := pcn_le (sLeast F n)
  refine lv_bipush (v := 16) hx hb dL_isLeaving_0 (by decide) ?_
  refine va_newa (atype := .int) (ty := .int) (a0 := (16, .inl (fun _ => 0))) (N' := 16) hx hb (hts (.arrayClass .int) (by decide +kernel)) rfl hK hP hD hS hA (fun _ => rfl) (by decide) (by decide) (by decide) (Nat.le_of_ble_eq_true rfl) (Nat.le_of_ble_eq_true rfl) dL_isLeaving_2 (fun qp cA H hK9 hP hD hS => ?_)
  obtain rfl : cI = cA := ra_eq (hK9.2 0 _ rfl).2 (hK9.2 2 _ rfl).2
  clear hK9
  have hP : va_P D vwCl (wX q F (nI n) R cI cZ ++ [(qm, .inl (cI, 1, .inl (C))), (qp, .inl (cI, 16, .inl (fun _ => 0)))]) H := hP
  have hD : va_D A (wX q F (nI n) R cI cZ ++ [(qm, .inl (cI, 1, .inl (C))), (qp, .inl (cI, 16, .inl (fun _ => 0)))]) := hD
  refine lv_astore_n (lv' := [(2, .ref qp), (0, .ref (q 9)), (1, .ref qm)]) hx hb dL_isLeaving_4 rfl hl (by decide) rfl (fun ls hl => ?_)
  refine lv_aload_n hx hb dL_isLeaving_5 rfl (lv_at hl 1 rfl) ?_
  refine wr_V (As := []) (rest := []) (wr := ([(qm, .inl (cI, 1, .inl (C))), (qp, .inl (cI, 16, .inl (fun _ => 0)))] : va_W)) ⟨hx, hb, hml, hown, hts⟩ (c_X0_leaving l D q F n R cI cZ _ hw) (cwV 0 hts gL_isLeaving_X0_leaving rfl rfl rfl (by decide +kernel) ⟨Nat.le_of_ble_eq_true rfl, Nat.le_of_ble_eq_true rfl⟩) hK hP hD hA [0, 1, 2, 3, 4, 5, 6, 7, 8, 9] [10, 11] rfl rfl (by decide) rfl (by decide) (by decide) (va_recv hK hP (ci := 0) (q0 := 0) rfl rfl) hS rfl hl.1 rfl (Nat.le_of_ble_eq_true rfl) dL_isLeaving_6 ⟨Nat.le_of_ble_eq_true rfl, Nat.le_of_ble_eq_true rfl⟩ (fun r9 R_6 H locs h_6 hP hD hS => ?_)
  obtain rfl := h_6
  have hP : va_P D vwCl (wX q F (nI n) R_6 cI cZ ++ [(qm, .inl (cI, 1, .inl (C))), (qp, .inl (cI, 16, .inl (fun _ => 0)))]) H := hP.sub [2, 3, 4, 5, 6, 7, 8, 9, 10, 11, 0, 1] rfl
  have hD : va_D A (wX q F (nI n) R_6 cI cZ ++ [(qm, .inl (cI, 1, .inl (C))), (qp, .inl (cI, 16, .inl (fun _ => 0)))]) := hD.sub [2, 3, 4, 5, 6, 7, 8, 9, 10, 11, 0, 1] (by decide) rfl
  refine lv_istore_n (lv' := [(3, .int (nI (sLeast F n))), (2, .ref qp), (0, .ref (q 9)), (1, .ref qm)]) hx hb dL_isLeaving_9 rfl hl (by decide) rfl (fun ls hl => ?_)
  refine lv_aload_n hx hb dL_isLeaving_10 rfl (lv_at hl 2 rfl) ?_
  refine wr_V (As := []) (rest := []) (wr := ([(qm, .inl (cI, 1, .inl (C))), (qp, .inl (cI, 16, .inl (fun _ => 0)))] : va_W)) ⟨hx, hb, hml, hown, hts⟩ (c_X0_fewest l D q F n R_6 cI cZ _ hw) (cwV 0 hts gL_isLeaving_X0_fewest rfl rfl rfl (by decide +kernel) ⟨Nat.le_of_ble_eq_true rfl, Nat.le_of_ble_eq_true rfl⟩) hK hP hD hA [0, 1, 2, 3, 4, 5, 6, 7, 8, 9] [10, 11] rfl rfl (by decide) rfl (by decide) (by decide) (va_recv hK hP (ci := 0) (q0 := 0) rfl rfl) hS rfl hl.1 rfl (Nat.le_of_ble_eq_true rfl) dL_isLeaving_11 ⟨Nat.le_of_ble_eq_true rfl, Nat.le_of_ble_eq_true rfl⟩ (fun r9 R_11 H locs h_11 hP hD hS => ?_)
  obtain rfl := h_11
  have hP : va_P D vwCl (wX q F (nI n) R_11 cI cZ ++ [(qm, .inl (cI, 1, .inl (C))), (qp, .inl (cI, 16, .inl (fun _ => 0)))]) H := hP.sub [2, 3, 4, 5, 6, 7, 8, 9, 10, 11, 0, 1] rfl
  have hD : va_D A (wX q F (nI n) R_11 cI cZ ++ [(qm, .inl (cI, 1, .inl (C))), (qp, .inl (cI, 16, .inl (fun _ => 0)))]) := hD.sub [2, 3, 4, 5, 6, 7, 8, 9, 10, 11, 0, 1] (by decide) rfl
  refine lv_istore (lv' := [(4, .int (nI (pcn (sLeast F n)))), (3, .int (nI (sLeast F n))), (2, .ref qp), (0, .ref (q 9)), (1, .ref qm)]) hx hb dL_isLeaving_14 hl (by decide) rfl (fun ls hl => ?_)
  refine lv_iconst (v := 0) hx hb dL_isLeaving_16 (by decide) ?_
  refine lv_istore (lv' := [(5, .int 0), (4, .int (nI (pcn (sLeast F n)))), (3, .int (nI (sLeast F n))), (2, .ref qp), (0, .ref (q 9)), (1, .ref qm)]) hx hb dL_isLeaving_17 hl (by decide) rfl (fun ls hl => ?_)
  refine lv_iload_n hx hb dL_isLeaving_19 rfl (lv_at hl 2 rfl) ?_
  refine lv_aload_n hx hb dL_isLeaving_20 rfl (lv_at hl 5 rfl) ?_
  refine lv_iconst (v := 0) hx hb dL_isLeaving_21 (by decide) ?_
  refine xiald (g := 0) hx hb hK hP 10 0 rfl rfl (by omega) (by decide) dL_isLeaving_22 ?_
  refine W.eq (g2 := F0 m9 23 ls (.int (nI n) :: [.int (nI (sLeast F n))])) (congrArg (fun z => F0 m9 23 ls (Value.int z :: [.int (nI (sLeast F n))])) (hm)) ?_
  refine lv_ishr hx hb (x := (nI (sLeast F n))) (y := (nI n)) dL_isLeaving_23 ?_
  refine W.eq (g2 := F0 m9 24 ls (.int 0 :: [])) (congrArg (fun z => F0 m9 24 ls (Value.int z :: [])) (shr_0 (sL_lt hw hs) (by omega))) ?_
  refine lv_if_ne (x := 0) (tgt := 48) hx hb dL_isLeaving_24 (by decide) (fun k => absurd (by decide) k) (fun _ => ?_)
  have J49 : ∀  (H : Heap) (locs : List Loc) (ls : Array Slot), va_P D vwCl (wX q F (nI n) R_11 cI cZ ++ [(qm, .inl (cI, 1, .inl (C))), (qp, .inl (cI, 16, .inl (fun _ => 0)))]) H → va_D A (wX q F (nI n) R_11 cI cZ ++ [(qm, .inl (cI, 1, .inl (C))), (qp, .inl (cI, 16, .inl (fun _ => 0)))]) → va_S A s.heap H locs → lv_has ls 8 [(0, .ref (q 9)), (1, .ref qm), (2, .ref qp), (3, .int (nI (sLeast F n))), (4, .int (nI (pcn (sLeast F n)))), (5, .int 0)] → W p9 l e9 ({ frames := 20, cells := 1, slots := 16, locals := 843 }) s m9 a9 below meth c9 H locs (1) (16) (MQ below (va_Qi (fun (r : Int32) (u : Nat → Int32) => r = 1) (wB D A (fun (u : Nat → Int32) => wC q F (nI n) u cI cZ qm C)) A) a9 s 1 16 A) (F0 m9 49 ls [.int 1]) := by
    intro  H locs ls  hP hD hS hl
    refine lv_istore (lv' := [(6, .int 1), (0, .ref (q 9)), (1, .ref qm), (2, .ref qp), (3, .int (nI (sLeast F n))), (4, .int (nI (pcn (sLeast F n)))), (5, .int 0)]) hx hb dL_isLeaving_49 hl (by decide) rfl (fun ls hl => ?_)
    refine lv_iconst (v := 0) hx hb dL_isLeaving_51 (by decide) ?_
    refine lv_istore (lv' := [(7, .int 0), (6, .int 1), (0, .ref (q 9)), (1, .ref qm), (2, .ref qp), (3, .int (nI (sLeast F n))), (4, .int (nI (pcn (sLeast F n)))), (5, .int 0)]) hx hb dL_isLeaving_52 hl (by decide) rfl (fun ls hl => ?_)
    have L54 : ∀ (d9 : Nat) (a1 : Nat) (Pv : Nat → Int32) (H : Heap) (locs : List Loc) (ls : Array Slot), n - a1 < d9 → (a1 ≤ n) → (∀ j, j < a1 → Pv j = F 7 j) → va_P D vwCl (wX q F (nI n) R_11 cI cZ ++ [(qm, .inl (cI, 1, .inl (C))), (qp, .inl (cI, 16, .inl (Pv)))]) H → va_D A (wX q F (nI n) R_11 cI cZ ++ [(qm, .inl (cI, 1, .inl (C))), (qp, .inl (cI, 16, .inl (Pv)))]) → va_S A s.heap H locs → lv_has ls 8 [(7, .int (nI a1)), (5, .int (nI (pb (sLeast F n) a1))), (0, .ref (q 9)), (1, .ref qm), (2, .ref qp), (3, .int (nI (sLeast F n))), (4, .int (nI (pcn (sLeast F n)))), (6, .int 1)] → W p9 l e9 ({ frames := 20, cells := 1, slots := 16, locals := 843 }) s m9 a9 below meth c9 H locs (1) (16) (MQ below (va_Qi (fun (r : Int32) (u : Nat → Int32) => r = 1) (wB D A (fun (u : Nat → Int32) => wC q F (nI n) u cI cZ qm C)) A) a9 s 1 16 A) (F0 m9 54 ls []) := by
      intro d9
      induction d9 with
      | zero => intro a1 Pv H locs ls h9; exact absurd h9 (Nat.not_lt_zero _)
      | succ d9 ih54 =>
        intro a1 Pv H locs ls hd54 hk1 hPv1 hP hD hS hl
        refine lv_iload hx hb dL_isLeaving_54 (lv_at hl 0 rfl) ?_
        refine lv_aload_n hx hb dL_isLeaving_56 rfl (lv_at hl 3 rfl) ?_
        refine lv_iconst (v := 0) hx hb dL_isLeaving_57 (by decide) ?_
        refine xiald (g := 0) hx hb hK hP 10 0 rfl rfl (by omega) (by decide) dL_isLeaving_58 ?_
        refine W.eq (g2 := F0 m9 59 ls (.int (nI n) :: [.int (nI a1)])) (congrArg (fun z => F0 m9 59 ls (Value.int z :: [.int (nI a1)])) (hm)) ?_
        refine lv_icmp_ge (x := (nI a1)) (y := (nI n)) (tgt := 89) hx hb dL_isLeaving_59 (by decide) (fun c_59 => ?_) (fun c_59 => ?_)
        · have c_59 := nl_ge (k := a1) (n := n) c_59 (by omega) (by omega)
          have hPv : ∀ j, j < n → Pv j = F 7 j := fun j hj => hPv1 j (by omega)
          have e5 : nI (pb (sLeast F n) a1) = nI (pcn (sLeast F n)) := by rw [show a1 = n by omega]; exact congrArg nI (pb_all hw hs)
          rw [e5] at hl
          refine lv_iconst (v := 0) hx hb dL_isLeaving_89 (by decide) ?_
          refine lv_istore (lv' := [(7, .int 0), (5, .int (nI (pcn (sLeast F n)))), (0, .ref (q 9)), (1, .ref qm), (2, .ref qp), (3, .int (nI (sLeast F n))), (4, .int (nI (pcn (sLeast F n)))), (6, .int 1)]) hx hb dL_isLeaving_90 hl (by decide) rfl (fun ls hl => ?_)
          have L92 : ∀ (d9 : Nat) (g : Nat) (H : Heap) (locs : List Loc) (ls : Array Slot), n - g < d9 → (g ≤ n) → va_P D vwCl (wX q (f2 F n g) (nI n) R_11 cI cZ ++ [(qm, .inl (cI, 1, .inl (C))), (qp, .inl (cI, 16, .inl (Pv)))]) H → va_D A (wX q (f2 F n g) (nI n) R_11 cI cZ ++ [(qm, .inl (cI, 1, .inl (C))), (qp, .inl (cI, 16, .inl (Pv)))]) → va_S A s.heap H locs → lv_has ls 8 [(7, .int (nI g)), (6, .int 1), (0, .ref (q 9)), (1, .ref qm), (2, .ref qp), (3, .int (nI (sLeast F n))), (4, .int (nI (pcn (sLeast F n)))), (5, .int (nI (pcn (sLeast F n))))] → W p9 l e9 ({ frames := 20, cells := 1, slots := 16, locals := 843 }) s m9 a9 below meth c9 H locs (1) (16) (MQ below (va_Qi (fun (r : Int32) (u : Nat → Int32) => r = 1) (wB D A (fun (u : Nat → Int32) => wC q F (nI n) u cI cZ qm C)) A) a9 s 1 16 A) (F0 m9 92 ls []) := by
            intro d9
            induction d9 with
            | zero => intro g H locs ls h9; exact absurd h9 (Nat.not_lt_zero _)
            | succ d9 ih92 =>
              intro g H locs ls hd92 hk2 hP hD hS hl
              refine lv_iload hx hb dL_isLeaving_92 (lv_at hl 0 rfl) ?_
              refine lv_aload_n hx hb dL_isLeaving_94 rfl (lv_at hl 3 rfl) ?_
              refine lv_iconst (v := 0) hx hb dL_isLeaving_95 (by decide) ?_
              refine xiald (g := 0) hx hb hK hP 10 0 rfl rfl (by omega) (by decide) dL_isLeaving_96 ?_
              refine W.eq (g2 := F0 m9 97 ls (.int (nI n) :: [.int (nI g)])) (congrArg (fun z => F0 m9 97 ls (Value.int z :: [.int (nI g)])) (hm)) ?_
              refine lv_icmp_ge (x := (nI g)) (y := (nI n)) (tgt := 148) hx hb dL_isLeaving_97 (by decide) (fun c_97 => ?_) (fun c_97 => ?_)
              · have c_97 := nl_ge (k := g) (n := n) c_97 (by omega) (by omega)
                have eF9 : (f2 F n g) = fL F n := by rw [show g = n by omega]; exact f2_n hw hs
                rw [eF9] at hP hD
                clear eF9
                refine lv_iload hx hb dL_isLeaving_148 (lv_at hl 1 rfl) ?_
                refine lv_if_eq (x := 1) (tgt := 171) hx hb dL_isLeaving_150 (by decide) (fun k => absurd k (by decide)) (fun _ => ?_)
                refine lv_iload hx hb dL_isLeaving_153 (lv_at hl 7 rfl) ?_
                refine lv_iload hx hb dL_isLeaving_155 (lv_at hl 6 rfl) ?_
                refine lv_icmp_ne (x := (nI (pcn (sLeast F n)))) (y := (nI (pcn (sLeast F n)))) (tgt := 171) hx hb dL_isLeaving_157 (by decide) (fun k => (k rfl : False).elim) (fun c_157 => ?_)
                refine lv_aload_n hx hb dL_isLeaving_160 rfl (lv_at hl 2 rfl) ?_
                refine ro_V (As := []) (rest := []) ⟨hx, hb, hml, hown, hts⟩ (c_X0_isClean l D q (fL F n) n R_11 cI cZ (wf_fL hw)) (cwV 0 hts gL_isLeaving_X0_isClean rfl rfl rfl (by decide +kernel) ⟨Nat.le_of_ble_eq_true rfl, Nat.le_of_ble_eq_true rfl⟩) hK hP (hP.sub [0, 1, 2, 3, 4, 5, 6, 7, 8, 9] rfl) (va_recv hK hP (ci := 0) (q0 := 0) rfl rfl) hS rfl hl.1 rfl (Nat.le_of_ble_eq_true rfl) dL_isLeaving_161 ⟨Nat.le_of_ble_eq_true rfl, Nat.le_of_ble_eq_true rfl⟩ (fun r9 H locs h_161 hP hS => ?_)
                obtain rfl := h_161
                refine lv_if_eq (x := (bi (allB (fun k => sClean (fL F n) n k ((fL F n) 7 k)) n))) (tgt := 171) hx hb dL_isLeaving_164 (by decide) (fun k => (bi_no (clean_fL hw hs) k : False).elim) (fun c_164 => ?_)
                refine lv_iconst (v := 1) hx hb dL_isLeaving_167 (by decide) ?_
                refine lv_goto (tgt := 172) hx hb dL_isLeaving_168 (by decide) ?_
                refine lv_istore (lv' := [(6, .int 1), (7, .int (nI g)), (0, .ref (q 9)), (1, .ref qm), (2, .ref qp), (3, .int (nI (sLeast F n))), (4, .int (nI (pcn (sLeast F n)))), (5, .int (nI (pcn (sLeast F n))))]) hx hb dL_isLeaving_172 hl (by decide) rfl (fun ls hl => ?_)
                refine lv_iconst (v := 0) hx hb dL_isLeaving_174 (by decide) ?_
                refine lv_istore (lv' := [(7, .int 0), (6, .int 1), (0, .ref (q 9)), (1, .ref qm), (2, .ref qp), (3, .int (nI (sLeast F n))), (4, .int (nI (pcn (sLeast F n)))), (5, .int (nI (pcn (sLeast F n))))]) hx hb dL_isLeaving_175 hl (by decide) rfl (fun ls hl => ?_)
                have L177 : ∀ (d9 : Nat) (h : Nat) (Rv : Nat → Int32) (H : Heap) (locs : List Loc) (ls : Array Slot), n - h < d9 → (h ≤ n) → va_P D vwCl (wX q (fL F n) (nI n) Rv cI cZ ++ [(qm, .inl (cI, 1, .inl (C))), (qp, .inl (cI, 16, .inl (Pv)))]) H → va_D A (wX q (fL F n) (nI n) Rv cI cZ ++ [(qm, .inl (cI, 1, .inl (C))), (qp, .inl (cI, 16, .inl (Pv)))]) → va_S A s.heap H locs → lv_has ls 8 [(7, .int (nI h)), (6, .int 1), (0, .ref (q 9)), (1, .ref qm), (2, .ref qp), (3, .int (nI (sLeast F n))), (4, .int (nI (pcn (sLeast F n)))), (5, .int (nI (pcn (sLeast F n))))] → W p9 l e9 ({ frames := 20, cells := 1, slots := 16, locals := 843 }) s m9 a9 below meth c9 H locs (1) (16) (MQ below (va_Qi (fun (r : Int32) (u : Nat → Int32) => r = 1) (wB D A (fun (u : Nat → Int32) => wC q F (nI n) u cI cZ qm C)) A) a9 s 1 16 A) (F0 m9 177 ls []) := by
                  intro d9
                  induction d9 with
                  | zero => intro h Rv H locs ls h9; exact absurd h9 (Nat.not_lt_zero _)
                  | succ d9 ih177 =>
                    intro h Rv H locs ls hd177 hk3 hP hD hS hl
                    refine lv_iload hx hb dL_isLeaving_177 (lv_at hl 0 rfl) ?_
                    refine lv_aload_n hx hb dL_isLeaving_179 rfl (lv_at hl 3 rfl) ?_
                    refine lv_iconst (v := 0) hx hb dL_isLeaving_180 (by decide) ?_
                    refine xiald (g := 0) hx hb hK hP 10 0 rfl rfl (by omega) (by decide) dL_isLeaving_181 ?_
                    refine W.eq (g2 := F0 m9 182 ls (.int (nI n) :: [.int (nI h)])) (congrArg (fun z => F0 m9 182 ls (Value.int z :: [.int (nI h)])) (hm)) ?_
                    refine lv_icmp_ge (x := (nI h)) (y := (nI n)) (tgt := 269) hx hb dL_isLeaving_182 (by decide) (fun c_182 => ?_) (fun c_182 => ?_)
                    · have c_182 := nl_ge (k := h) (n := n) c_182 (by omega) (by omega)
                      refine lv_iconst (v := 0) hx hb dL_isLeaving_269 (by decide) ?_
                      refine lv_istore (lv' := [(7, .int 0), (6, .int 1), (0, .ref (q 9)), (1, .ref qm), (2, .ref qp), (3, .int (nI (sLeast F n))), (4, .int (nI (pcn (sLeast F n)))), (5, .int (nI (pcn (sLeast F n))))]) hx hb dL_isLeaving_270 hl (by decide) rfl (fun ls hl => ?_)
                      have L272 : ∀ (d9 : Nat) (j : Nat) (H : Heap) (locs : List Loc) (ls : Array Slot), n - j < d9 → (j ≤ n) → va_P D vwCl (wX q (f4 F n j) (nI n) Rv cI cZ ++ [(qm, .inl (cI, 1, .inl (C))), (qp, .inl (cI, 16, .inl (Pv)))]) H → va_D A (wX q (f4 F n j) (nI n) Rv cI cZ ++ [(qm, .inl (cI, 1, .inl (C))), (qp, .inl (cI, 16, .inl (Pv)))]) → va_S A s.heap H locs → lv_has ls 8 [(7, .int (nI j)), (6, .int 1), (0, .ref (q 9)), (1, .ref qm), (2, .ref qp), (3, .int (nI (sLeast F n))), (4, .int (nI (pcn (sLeast F n)))), (5, .int (nI (pcn (sLeast F n))))] → W p9 l e9 ({ frames := 20, cells := 1, slots := 16, locals := 843 }) s m9 a9 below meth c9 H locs (1) (16) (MQ below (va_Qi (fun (r : Int32) (u : Nat → Int32) => r = 1) (wB D A (fun (u : Nat → Int32) => wC q F (nI n) u cI cZ qm C)) A) a9 s 1 16 A) (F0 m9 272 ls []) := by
                        intro d9
                        induction d9 with
                        | zero => intro j H locs ls h9; exact absurd h9 (Nat.not_lt_zero _)
                        | succ d9 ih272 =>
                          intro j H locs ls hd272 hk4 hP hD hS hl
                          refine lv_iload hx hb dL_isLeaving_272 (lv_at hl 0 rfl) ?_
                          refine lv_aload_n hx hb dL_isLeaving_274 rfl (lv_at hl 3 rfl) ?_
                          refine lv_iconst (v := 0) hx hb dL_isLeaving_275 (by decide) ?_
                          refine xiald (g := 0) hx hb hK hP 10 0 rfl rfl (by omega) (by decide) dL_isLeaving_276 ?_
                          refine W.eq (g2 := F0 m9 277 ls (.int (nI n) :: [.int (nI j)])) (congrArg (fun z => F0 m9 277 ls (Value.int z :: [.int (nI j)])) (hm)) ?_
                          refine lv_icmp_ge (x := (nI j)) (y := (nI n)) (tgt := 321) hx hb dL_isLeaving_277 (by decide) (fun c_277 => ?_) (fun c_277 => ?_)
                          · have c_277 := nl_ge (k := j) (n := n) c_277 (by omega) (by omega)
                            have eF9 : (f4 F n j) = F := by rw [show j = n by omega]; exact f4_n hw hs
                            rw [eF9] at hP hD
                            clear eF9
                            refine lv_iload hx hb dL_isLeaving_321 (lv_at hl 1 rfl) ?_
                            refine lv_if_eq (x := 1) (tgt := 347) hx hb dL_isLeaving_323 (by decide) (fun k => absurd k (by decide)) (fun _ => ?_)
                            refine lv_aload_n hx hb dL_isLeaving_326 rfl (lv_at hl 2 rfl) ?_
                            refine wr_V (As := []) (rest := []) (wr := ([(qm, .inl (cI, 1, .inl (C))), (qp, .inl (cI, 16, .inl (Pv)))] : va_W)) ⟨hx, hb, hml, hown, hts⟩ (c_X0_leaving l D q F n Rv cI cZ _ hw) (cwV 0 hts gL_isLeaving_X0_leaving rfl rfl rfl (by decide +kernel) ⟨Nat.le_of_ble_eq_true rfl, Nat.le_of_ble_eq_true rfl⟩) hK hP hD hA [0, 1, 2, 3, 4, 5, 6, 7, 8, 9] [10, 11] rfl rfl (by decide) rfl (by decide) (by decide) (va_recv hK hP (ci := 0) (q0 := 0) rfl rfl) hS rfl hl.1 rfl (Nat.le_of_ble_eq_true rfl) dL_isLeaving_327 ⟨Nat.le_of_ble_eq_true rfl, Nat.le_of_ble_eq_true rfl⟩ (fun r9 R_327 H locs h_327 hP hD hS => ?_)
                            obtain rfl := h_327
                            have hP : va_P D vwCl (wX q F (nI n) R_327 cI cZ ++ [(qm, .inl (cI, 1, .inl (C))), (qp, .inl (cI, 16, .inl (Pv)))]) H := hP.sub [2, 3, 4, 5, 6, 7, 8, 9, 10, 11, 0, 1] rfl
                            have hD : va_D A (wX q F (nI n) R_327 cI cZ ++ [(qm, .inl (cI, 1, .inl (C))), (qp, .inl (cI, 16, .inl (Pv)))]) := hD.sub [2, 3, 4, 5, 6, 7, 8, 9, 10, 11, 0, 1] (by decide) rfl
                            refine lv_iload_n hx hb dL_isLeaving_330 rfl (lv_at hl 5 rfl) ?_
                            refine lv_icmp_ne (x := (nI (sLeast F n))) (y := (nI (sLeast F n))) (tgt := 347) hx hb dL_isLeaving_331 (by decide) (fun k => (k rfl : False).elim) (fun c_331 => ?_)
                            refine lv_aload_n hx hb dL_isLeaving_334 rfl (lv_at hl 2 rfl) ?_
                            refine wr_V (As := []) (rest := []) (wr := ([(qm, .inl (cI, 1, .inl (C))), (qp, .inl (cI, 16, .inl (Pv)))] : va_W)) ⟨hx, hb, hml, hown, hts⟩ (c_X0_fewest l D q F n R_327 cI cZ _ hw) (cwV 0 hts gL_isLeaving_X0_fewest rfl rfl rfl (by decide +kernel) ⟨Nat.le_of_ble_eq_true rfl, Nat.le_of_ble_eq_true rfl⟩) hK hP hD hA [0, 1, 2, 3, 4, 5, 6, 7, 8, 9] [10, 11] rfl rfl (by decide) rfl (by decide) (by decide) (va_recv hK hP (ci := 0) (q0 := 0) rfl rfl) hS rfl hl.1 rfl (Nat.le_of_ble_eq_true rfl) dL_isLeaving_335 ⟨Nat.le_of_ble_eq_true rfl, Nat.le_of_ble_eq_true rfl⟩ (fun r9 R_335 H locs h_335 hP hD hS => ?_)
                            obtain rfl := h_335
                            have hP : va_P D vwCl (wX q F (nI n) R_335 cI cZ ++ [(qm, .inl (cI, 1, .inl (C))), (qp, .inl (cI, 16, .inl (Pv)))]) H := hP.sub [2, 3, 4, 5, 6, 7, 8, 9, 10, 11, 0, 1] rfl
                            have hD : va_D A (wX q F (nI n) R_335 cI cZ ++ [(qm, .inl (cI, 1, .inl (C))), (qp, .inl (cI, 16, .inl (Pv)))]) := hD.sub [2, 3, 4, 5, 6, 7, 8, 9, 10, 11, 0, 1] (by decide) rfl
                            refine lv_iload hx hb dL_isLeaving_338 (lv_at hl 6 rfl) ?_
                            refine lv_icmp_ne (x := (nI (pcn (sLeast F n)))) (y := (nI (pcn (sLeast F n)))) (tgt := 347) hx hb dL_isLeaving_340 (by decide) (fun k => (k rfl : False).elim) (fun c_340 => ?_)
                            refine lv_iconst (v := 1) hx hb dL_isLeaving_343 (by decide) ?_
                            refine lv_goto (tgt := 348) hx hb dL_isLeaving_344 (by decide) ?_
                            refine W.widen (k := 1) (n := 16) (by omega) (by omega) ?_
                            exact W.zret hx hb hr zn1 (fun t ht9 hW => ⟨⟨_, R_335, rfl, (by show 1 = 1; exact rfl), by rw [ht9]; exact (hP.sub [0, 1, 2, 3, 4, 5, 6, 7, 8, 9, 10] rfl), (hD.sub [0, 1, 2, 3, 4, 5, 6, 7, 8, 9, 10] (by decide) rfl)⟩, hS.F ht9⟩) hS.2.2 dL_isLeaving_348
                          · have c_277 := nl_lt (k := j) (n := n) c_277 (by omega) (by omega)
                            refine lv_iload hx hb dL_isLeaving_280 (lv_at hl 1 rfl) ?_
                            refine lv_if_eq (x := 1) (tgt := 321) hx hb dL_isLeaving_282 (by decide) (fun k => absurd k (by decide)) (fun _ => ?_)
                            refine lv_iload_n hx hb dL_isLeaving_285 rfl (lv_at hl 5 rfl) ?_
                            refine lv_iload hx hb dL_isLeaving_286 (lv_at hl 0 rfl) ?_
                            refine lv_ishr hx hb (x := (nI (sLeast F n))) (y := (nI j)) dL_isLeaving_288 ?_
                            refine lv_iconst (v := 1) hx hb dL_isLeaving_289 (by decide) ?_
                            refine lv_iand hx hb (x := ((nI (sLeast F n)) >>> ((nI j) &&& 31))) (y := 1) dL_isLeaving_290 ?_
                            refine W.eq (g2 := F0 m9 291 ls (.int (bi ((sLeast F n).testBit j)) :: [])) (congrArg (fun z => F0 m9 291 ls (Value.int z :: [])) (bit_bi (sL_16 hw hs) (by omega))) ?_
                            refine lv_if_eq (x := (bi ((sLeast F n).testBit j))) (tgt := 308) hx hb dL_isLeaving_291 (by decide) (fun c_291 => ?_) (fun c_291 => ?_)
                            · have c_291 := bi_e0.mp c_291
                              have eF9 : (f4 F n j) = f4 F n (j + 1) := f4_skip c_291
                              rw [eF9] at hP hD
                              clear eF9
                              refine lv_iconst (v := 1) hx hb dL_isLeaving_308 (by decide) ?_
                              refine lv_goto (tgt := 313) hx hb dL_isLeaving_309 (by decide) ?_
                              refine lv_istore (lv' := [(6, .int 1), (7, .int (nI j)), (0, .ref (q 9)), (1, .ref qm), (2, .ref qp), (3, .int (nI (sLeast F n))), (4, .int (nI (pcn (sLeast F n)))), (5, .int (nI (pcn (sLeast F n))))]) hx hb dL_isLeaving_313 hl (by decide) rfl (fun ls hl => ?_)
                              refine lv_iinc (v := (nI (j + 1))) (lv' := [(7, .int (nI (j + 1))), (6, .int 1), (0, .ref (q 9)), (1, .ref qm), (2, .ref qp), (3, .int (nI (sLeast F n))), (4, .int (nI (pcn (sLeast F n)))), (5, .int (nI (pcn (sLeast F n))))]) hx hb dL_isLeaving_315 hl (k := 1) rfl (nI_add j 1) (by decide) rfl (fun ls hl => ?_)
                              refine lv_goto (tgt := 272) hx hb dL_isLeaving_318 (by decide) ?_
                              exact ih272 (j + 1) _ _ _ (by omega) (by omega) hP hD hS (lv_sub hl [0, 1, 2, 3, 4, 5, 6, 7] rfl)
                            · have c_291 := bi_n0.mp c_291
                              refine lv_aload_n hx hb dL_isLeaving_294 rfl (lv_at hl 2 rfl) ?_
                              refine lv_iload hx hb dL_isLeaving_295 (lv_at hl 0 rfl) ?_
                              refine lv_aload_n hx hb dL_isLeaving_297 rfl (lv_at hl 4 rfl) ?_
                              refine lv_iload hx hb dL_isLeaving_298 (lv_at hl 0 rfl) ?_
                              refine xiald (g := j) hx hb hK hP 11 0 rfl rfl (by omega) (by decide) dL_isLeaving_300 ?_
                              refine W.eq (g2 := F0 m9 301 ls (.int (F 7 j) :: [.int (nI j), .ref (q 9)])) (congrArg (fun z => F0 m9 301 ls (Value.int z :: [.int (nI j), .ref (q 9)])) (hPv j c_277)) ?_
                              refine wr_V (As := [.int (nI j), .int (F 7 j)]) (rest := []) (wr := ([(qm, .inl (cI, 1, .inl (C))), (qp, .inl (cI, 16, .inl (Pv)))] : va_W)) ⟨hx, hb, hml, hown, hts⟩ (v_put l D q (f4 F n j) n Rv cI cZ _ j (F 7 j) (wf_f4 hw) c_277 (okP_put (hw.p7 c_277))) (cwV 2 hts gL_isLeaving_X0_put rfl rfl rfl (by decide +kernel) ⟨Nat.le_of_ble_eq_true rfl, Nat.le_of_ble_eq_true rfl⟩) hK hP hD hA [0, 1, 2, 3, 4, 5, 6, 7, 8, 9] [10, 11] rfl rfl (by decide) rfl (by decide) (by decide) (va_recv hK hP (ci := 0) (q0 := 0) rfl rfl) hS rfl hl.1 rfl (Nat.le_of_ble_eq_true rfl) dL_isLeaving_301 ⟨Nat.le_of_ble_eq_true rfl, Nat.le_of_ble_eq_true rfl⟩ (fun r9 u9 H locs h_301 hP hD hS => ?_)
                              obtain ⟨rfl, rfl⟩ := h_301
                              have hP : va_P D vwCl (wX q (fP (f4 F n j) j (F 7 j)) (nI n) Rv cI cZ ++ [(qm, .inl (cI, 1, .inl (C))), (qp, .inl (cI, 16, .inl (Pv)))]) H := hP.sub [2, 3, 4, 5, 6, 7, 8, 9, 10, 11, 0, 1] rfl
                              have hD : va_D A (wX q (fP (f4 F n j) j (F 7 j)) (nI n) Rv cI cZ ++ [(qm, .inl (cI, 1, .inl (C))), (qp, .inl (cI, 16, .inl (Pv)))]) := hD.sub [2, 3, 4, 5, 6, 7, 8, 9, 10, 11, 0, 1] (by decide) rfl
                              have eF9 : (fP (f4 F n j) j (F 7 j)) = f4 F n (j + 1) := f4_put
                              rw [eF9] at hP hD
                              clear eF9
                              refine W.eq (g2 := F0 m9 304 ls (.int (-1) :: [])) (congrArg (fun z => F0 m9 304 ls (Value.int z :: [])) (f4_7 c_291)) ?_
                              refine lv_iconst (v := (-1)) hx hb dL_isLeaving_304 (by decide) ?_
                              refine lv_icmp_ne (x := (-1)) (y := (-1)) (tgt := 312) hx hb dL_isLeaving_305 (by decide) (fun k => absurd (by decide) k) (fun _ => ?_)
                              refine lv_iconst (v := 1) hx hb dL_isLeaving_308 (by decide) ?_
                              refine lv_goto (tgt := 313) hx hb dL_isLeaving_309 (by decide) ?_
                              refine lv_istore (lv' := [(6, .int 1), (7, .int (nI j)), (0, .ref (q 9)), (1, .ref qm), (2, .ref qp), (3, .int (nI (sLeast F n))), (4, .int (nI (pcn (sLeast F n)))), (5, .int (nI (pcn (sLeast F n))))]) hx hb dL_isLeaving_313 hl (by decide) rfl (fun ls hl => ?_)
                              refine lv_iinc (v := (nI (j + 1))) (lv' := [(7, .int (nI (j + 1))), (6, .int 1), (0, .ref (q 9)), (1, .ref qm), (2, .ref qp), (3, .int (nI (sLeast F n))), (4, .int (nI (pcn (sLeast F n)))), (5, .int (nI (pcn (sLeast F n))))]) hx hb dL_isLeaving_315 hl (k := 1) rfl (nI_add j 1) (by decide) rfl (fun ls hl => ?_)
                              refine lv_goto (tgt := 272) hx hb dL_isLeaving_318 (by decide) ?_
                              exact ih272 (j + 1) _ _ _ (by omega) (by omega) hP hD hS (lv_sub hl [0, 1, 2, 3, 4, 5, 6, 7] rfl)
                      have eF9 : (fL F n) = f4 F n 0 := f4_0
                      rw [eF9] at hP hD
                      clear eF9
                      exact L272 _ 0 _ _ _ (Nat.lt_succ_self _) (by omega) hP hD hS (lv_sub hl [0, 1, 2, 3, 4, 5, 6, 7] rfl)
                    · have c_182 := nl_lt (k := h) (n := n) c_182 (by omega) (by omega)
                      refine lv_iload hx hb dL_isLeaving_185 (lv_at hl 1 rfl) ?_
                      refine lv_if_eq (x := 1) (tgt := 269) hx hb dL_isLeaving_187 (by decide) (fun k => absurd k (by decide)) (fun _ => ?_)
                      refine lv_iload_n hx hb dL_isLeaving_190 rfl (lv_at hl 5 rfl) ?_
                      refine lv_iload hx hb dL_isLeaving_191 (lv_at hl 0 rfl) ?_
                      refine lv_ishr hx hb (x := (nI (sLeast F n))) (y := (nI h)) dL_isLeaving_193 ?_
                      refine lv_iconst (v := 1) hx hb dL_isLeaving_194 (by decide) ?_
                      refine lv_iand hx hb (x := ((nI (sLeast F n)) >>> ((nI h) &&& 31))) (y := 1) dL_isLeaving_195 ?_
                      refine W.eq (g2 := F0 m9 196 ls (.int (bi ((sLeast F n).testBit h)) :: [])) (congrArg (fun z => F0 m9 196 ls (Value.int z :: [])) (bit_bi (sL_16 hw hs) (by omega))) ?_
                      refine lv_if_eq (x := (bi ((sLeast F n).testBit h))) (tgt := 256) hx hb dL_isLeaving_196 (by decide) (fun c_196 => ?_) (fun c_196 => ?_)
                      · have c_196 := bi_e0.mp c_196
                        refine lv_iconst (v := 1) hx hb dL_isLeaving_256 (by decide) ?_
                        refine lv_goto (tgt := 261) hx hb dL_isLeaving_257 (by decide) ?_
                        refine lv_istore (lv' := [(6, .int 1), (7, .int (nI h)), (0, .ref (q 9)), (1, .ref qm), (2, .ref qp), (3, .int (nI (sLeast F n))), (4, .int (nI (pcn (sLeast F n)))), (5, .int (nI (pcn (sLeast F n))))]) hx hb dL_isLeaving_261 hl (by decide) rfl (fun ls hl => ?_)
                        refine lv_iinc (v := (nI (h + 1))) (lv' := [(7, .int (nI (h + 1))), (6, .int 1), (0, .ref (q 9)), (1, .ref qm), (2, .ref qp), (3, .int (nI (sLeast F n))), (4, .int (nI (pcn (sLeast F n)))), (5, .int (nI (pcn (sLeast F n))))]) hx hb dL_isLeaving_263 hl (k := 1) rfl (nI_add h 1) (by decide) rfl (fun ls hl => ?_)
                        refine lv_goto (tgt := 177) hx hb dL_isLeaving_266 (by decide) ?_
                        exact ih177 (h + 1) _ _ _ _ (by omega) (by omega) hP hD hS (lv_sub hl [0, 1, 2, 3, 4, 5, 6, 7] rfl)
                      · have c_196 := bi_n0.mp c_196
                        refine lv_aload_n hx hb dL_isLeaving_199 rfl (lv_at hl 2 rfl) ?_
                        refine lv_iload hx hb dL_isLeaving_200 (lv_at hl 0 rfl) ?_
                        refine lv_aload_n hx hb dL_isLeaving_202 rfl (lv_at hl 4 rfl) ?_
                        refine lv_iload hx hb dL_isLeaving_203 (lv_at hl 0 rfl) ?_
                        refine xiald (g := h) hx hb hK hP 11 0 rfl rfl (by omega) (by decide) dL_isLeaving_205 ?_
                        refine W.eq (g2 := F0 m9 206 ls (.int (F 7 h) :: [.int (nI h), .ref (q 9)])) (congrArg (fun z => F0 m9 206 ls (Value.int z :: [.int (nI h), .ref (q 9)])) (hPv h c_182)) ?_
                        refine ro_V (As := [.int (nI h), .int (F 7 h)]) (rest := []) ⟨hx, hb, hml, hown, hts⟩ (v_canPut l D q (fL F n) n Rv cI cZ h (F 7 h) (wf_fL hw) c_182 ((okP_put (hw.p7 c_182)).resolve_left (sL_n hw hs c_196).2)) (cwV 2 hts gL_isLeaving_X0_canPut rfl rfl rfl (by decide +kernel) ⟨Nat.le_of_ble_eq_true rfl, Nat.le_of_ble_eq_true rfl⟩) hK hP (hP.sub [0, 1, 2, 3, 4, 5, 6, 7, 8, 9] rfl) (va_recv hK hP (ci := 0) (q0 := 0) rfl rfl) hS rfl hl.1 rfl (Nat.le_of_ble_eq_true rfl) dL_isLeaving_206 ⟨Nat.le_of_ble_eq_true rfl, Nat.le_of_ble_eq_true rfl⟩ (fun r9 H locs h_206 hP hS => ?_)
                        obtain rfl := h_206
                        refine lv_if_ne (x := (bi (sClean (fL F n) n h (F 7 h)))) (tgt := 260) hx hb dL_isLeaving_209 (by decide) (fun k => (bi_yes (no_stay hw hs c_182 c_196) k : False).elim) (fun c_209 => ?_)
                        refine lv_aload_n hx hb dL_isLeaving_212 rfl (lv_at hl 2 rfl) ?_
                        refine lv_iload hx hb dL_isLeaving_213 (lv_at hl 0 rfl) ?_
                        refine lv_aload_n hx hb dL_isLeaving_215 rfl (lv_at hl 4 rfl) ?_
                        refine lv_iload hx hb dL_isLeaving_216 (lv_at hl 0 rfl) ?_
                        refine xiald (g := h) hx hb hK hP 11 0 rfl rfl (by omega) (by decide) dL_isLeaving_218 ?_
                        refine W.eq (g2 := F0 m9 219 ls (.int (F 7 h) :: [.int (nI h), .ref (q 9)])) (congrArg (fun z => F0 m9 219 ls (Value.int z :: [.int (nI h), .ref (q 9)])) (hPv h c_182)) ?_
                        refine wr_V (As := [.int (nI h), .int (F 7 h)]) (rest := []) (wr := ([(qm, .inl (cI, 1, .inl (C))), (qp, .inl (cI, 16, .inl (Pv)))] : va_W)) ⟨hx, hb, hml, hown, hts⟩ (v_put l D q (fL F n) n Rv cI cZ _ h (F 7 h) (wf_fL hw) c_182 (okP_put (hw.p7 c_182))) (cwV 2 hts gL_isLeaving_X0_put rfl rfl rfl (by decide +kernel) ⟨Nat.le_of_ble_eq_true rfl, Nat.le_of_ble_eq_true rfl⟩) hK hP hD hA [0, 1, 2, 3, 4, 5, 6, 7, 8, 9] [10, 11] rfl rfl (by decide) rfl (by decide) (by decide) (va_recv hK hP (ci := 0) (q0 := 0) rfl rfl) hS rfl hl.1 rfl (Nat.le_of_ble_eq_true rfl) dL_isLeaving_219 ⟨Nat.le_of_ble_eq_true rfl, Nat.le_of_ble_eq_true rfl⟩ (fun r9 u9 H locs h_219 hP hD hS => ?_)
                        obtain ⟨rfl, rfl⟩ := h_219
                        have hP : va_P D vwCl (wX q (fP (fL F n) h (F 7 h)) (nI n) Rv cI cZ ++ [(qm, .inl (cI, 1, .inl (C))), (qp, .inl (cI, 16, .inl (Pv)))]) H := hP.sub [2, 3, 4, 5, 6, 7, 8, 9, 10, 11, 0, 1] rfl
                        have hD : va_D A (wX q (fP (fL F n) h (F 7 h)) (nI n) Rv cI cZ ++ [(qm, .inl (cI, 1, .inl (C))), (qp, .inl (cI, 16, .inl (Pv)))]) := hD.sub [2, 3, 4, 5, 6, 7, 8, 9, 10, 11, 0, 1] (by decide) rfl
                        have eF9 : (fP (fL F n) h (F 7 h)) = fK F n h := fL_put c_196
                        rw [eF9] at hP hD
                        clear eF9
                        refine W.eq (g2 := F0 m9 222 ls (.int (-1) :: [])) (congrArg (fun z => F0 m9 222 ls (Value.int z :: [])) (fL_7 c_196)) ?_
                        refine lv_iconst (v := (-1)) hx hb dL_isLeaving_222 (by decide) ?_
                        refine lv_icmp_ne (x := (-1)) (y := (-1)) (tgt := 260) hx hb dL_isLeaving_223 (by decide) (fun k => absurd (by decide) k) (fun _ => ?_)
                        refine lv_aload_n hx hb dL_isLeaving_226 rfl (lv_at hl 2 rfl) ?_
                        refine wr_V (As := []) (rest := []) (wr := ([(qm, .inl (cI, 1, .inl (C))), (qp, .inl (cI, 16, .inl (Pv)))] : va_W)) ⟨hx, hb, hml, hown, hts⟩ (c_X0_leaving l D q (fK F n h) n Rv cI cZ _ (wf_fK hw)) (cwV 0 hts gL_isLeaving_X0_leaving rfl rfl rfl (by decide +kernel) ⟨Nat.le_of_ble_eq_true rfl, Nat.le_of_ble_eq_true rfl⟩) hK hP hD hA [0, 1, 2, 3, 4, 5, 6, 7, 8, 9] [10, 11] rfl rfl (by decide) rfl (by decide) (by decide) (va_recv hK hP (ci := 0) (q0 := 0) rfl rfl) hS rfl hl.1 rfl (Nat.le_of_ble_eq_true rfl) dL_isLeaving_227 ⟨Nat.le_of_ble_eq_true rfl, Nat.le_of_ble_eq_true rfl⟩ (fun r9 R_227 H locs h_227 hP hD hS => ?_)
                        obtain rfl := h_227
                        have hP : va_P D vwCl (wX q (fK F n h) (nI n) R_227 cI cZ ++ [(qm, .inl (cI, 1, .inl (C))), (qp, .inl (cI, 16, .inl (Pv)))]) H := hP.sub [2, 3, 4, 5, 6, 7, 8, 9, 10, 11, 0, 1] rfl
                        have hD : va_D A (wX q (fK F n h) (nI n) R_227 cI cZ ++ [(qm, .inl (cI, 1, .inl (C))), (qp, .inl (cI, 16, .inl (Pv)))]) := hD.sub [2, 3, 4, 5, 6, 7, 8, 9, 10, 11, 0, 1] (by decide) rfl
                        refine lv_iconst (v := 1) hx hb dL_isLeaving_230 (by decide) ?_
                        refine lv_icmp_lt (x := (nI (sLeast (fK F n h) n))) (y := 1) (tgt := 260) hx hb dL_isLeaving_231 (by decide) (fun k => (ge_one (one_left hw hs c_182 c_196).2 (sL_16 (wf_fK hw) (sy_fG hs)) k : False).elim) (fun c_231 => ?_)
                        refine lv_aload_n hx hb dL_isLeaving_234 rfl (lv_at hl 2 rfl) ?_
                        refine wr_V (As := []) (rest := []) (wr := ([(qm, .inl (cI, 1, .inl (C))), (qp, .inl (cI, 16, .inl (Pv)))] : va_W)) ⟨hx, hb, hml, hown, hts⟩ (c_X0_fewest l D q (fK F n h) n R_227 cI cZ _ (wf_fK hw)) (cwV 0 hts gL_isLeaving_X0_fewest rfl rfl rfl (by decide +kernel) ⟨Nat.le_of_ble_eq_true rfl, Nat.le_of_ble_eq_true rfl⟩) hK hP hD hA [0, 1, 2, 3, 4, 5, 6, 7, 8, 9] [10, 11] rfl rfl (by decide) rfl (by decide) (by decide) (va_recv hK hP (ci := 0) (q0 := 0) rfl rfl) hS rfl hl.1 rfl (Nat.le_of_ble_eq_true rfl) dL_isLeaving_235 ⟨Nat.le_of_ble_eq_true rfl, Nat.le_of_ble_eq_true rfl⟩ (fun r9 R_235 H locs h_235 hP hD hS => ?_)
                        obtain rfl := h_235
                        have hP : va_P D vwCl (wX q (fK F n h) (nI n) R_235 cI cZ ++ [(qm, .inl (cI, 1, .inl (C))), (qp, .inl (cI, 16, .inl (Pv)))]) H := hP.sub [2, 3, 4, 5, 6, 7, 8, 9, 10, 11, 0, 1] rfl
                        have hD : va_D A (wX q (fK F n h) (nI n) R_235 cI cZ ++ [(qm, .inl (cI, 1, .inl (C))), (qp, .inl (cI, 16, .inl (Pv)))]) := hD.sub [2, 3, 4, 5, 6, 7, 8, 9, 10, 11, 0, 1] (by decide) rfl
                        refine W.eq (g2 := F0 m9 238 ls (.int 1 :: [])) (congrArg (fun z => F0 m9 238 ls (Value.int z :: [])) (congrArg nI (one_left hw hs c_182 c_196).1)) ?_
                        refine lv_iconst (v := 1) hx hb dL_isLeaving_238 (by decide) ?_
                        refine lv_icmp_ne (x := 1) (y := 1) (tgt := 260) hx hb dL_isLeaving_239 (by decide) (fun k => absurd (by decide) k) (fun _ => ?_)
                        refine lv_aload_n hx hb dL_isLeaving_242 rfl (lv_at hl 2 rfl) ?_
                        refine lv_iload hx hb dL_isLeaving_243 (lv_at hl 0 rfl) ?_
                        refine lv_iconst (v := (-1)) hx hb dL_isLeaving_245 (by decide) ?_
                        refine wr_V (As := [.int (nI h), .int (-1)]) (rest := []) (wr := ([(qm, .inl (cI, 1, .inl (C))), (qp, .inl (cI, 16, .inl (Pv)))] : va_W)) ⟨hx, hb, hml, hown, hts⟩ (v_put l D q (fK F n h) n R_235 cI cZ _ h (-1) (wf_fK hw) c_182 (Or.inl rfl)) (cwV 2 hts gL_isLeaving_X0_put rfl rfl rfl (by decide +kernel) ⟨Nat.le_of_ble_eq_true rfl, Nat.le_of_ble_eq_true rfl⟩) hK hP hD hA [0, 1, 2, 3, 4, 5, 6, 7, 8, 9] [10, 11] rfl rfl (by decide) rfl (by decide) (by decide) (va_recv hK hP (ci := 0) (q0 := 0) rfl rfl) hS rfl hl.1 rfl (Nat.le_of_ble_eq_true rfl) dL_isLeaving_246 ⟨Nat.le_of_ble_eq_true rfl, Nat.le_of_ble_eq_true rfl⟩ (fun r9 u9 H locs h_246 hP hD hS => ?_)
                        obtain ⟨rfl, rfl⟩ := h_246
                        have hP : va_P D vwCl (wX q (fP (fK F n h) h (-1)) (nI n) R_235 cI cZ ++ [(qm, .inl (cI, 1, .inl (C))), (qp, .inl (cI, 16, .inl (Pv)))]) H := hP.sub [2, 3, 4, 5, 6, 7, 8, 9, 10, 11, 0, 1] rfl
                        have hD : va_D A (wX q (fP (fK F n h) h (-1)) (nI n) R_235 cI cZ ++ [(qm, .inl (cI, 1, .inl (C))), (qp, .inl (cI, 16, .inl (Pv)))]) := hD.sub [2, 3, 4, 5, 6, 7, 8, 9, 10, 11, 0, 1] (by decide) rfl
                        have eF9 : (fP (fK F n h) h (-1)) = fL F n := fK_put c_196
                        rw [eF9] at hP hD
                        clear eF9
                        refine W.eq (g2 := F0 m9 249 ls (.int (F 7 h) :: [])) (congrArg (fun z => F0 m9 249 ls (Value.int z :: [])) (fK_7)) ?_
                        refine lv_aload_n hx hb dL_isLeaving_249 rfl (lv_at hl 4 rfl) ?_
                        refine lv_iload hx hb dL_isLeaving_250 (lv_at hl 0 rfl) ?_
                        refine xiald (g := h) hx hb hK hP 11 0 rfl rfl (by omega) (by decide) dL_isLeaving_252 ?_
                        refine W.eq (g2 := F0 m9 253 ls (.int (F 7 h) :: [.int (F 7 h)])) (congrArg (fun z => F0 m9 253 ls (Value.int z :: [.int (F 7 h)])) (hPv h c_182)) ?_
                        refine lv_icmp_ne (x := (F 7 h)) (y := (F 7 h)) (tgt := 260) hx hb dL_isLeaving_253 (by decide) (fun k => (k rfl : False).elim) (fun c_253 => ?_)
                        refine lv_iconst (v := 1) hx hb dL_isLeaving_256 (by decide) ?_
                        refine lv_goto (tgt := 261) hx hb dL_isLeaving_257 (by decide) ?_
                        refine lv_istore (lv' := [(6, .int 1), (7, .int (nI h)), (0, .ref (q 9)), (1, .ref qm), (2, .ref qp), (3, .int (nI (sLeast F n))), (4, .int (nI (pcn (sLeast F n)))), (5, .int (nI (pcn (sLeast F n))))]) hx hb dL_isLeaving_261 hl (by decide) rfl (fun ls hl => ?_)
                        refine lv_iinc (v := (nI (h + 1))) (lv' := [(7, .int (nI (h + 1))), (6, .int 1), (0, .ref (q 9)), (1, .ref qm), (2, .ref qp), (3, .int (nI (sLeast F n))), (4, .int (nI (pcn (sLeast F n)))), (5, .int (nI (pcn (sLeast F n))))]) hx hb dL_isLeaving_263 hl (k := 1) rfl (nI_add h 1) (by decide) rfl (fun ls hl => ?_)
                        refine lv_goto (tgt := 177) hx hb dL_isLeaving_266 (by decide) ?_
                        exact ih177 (h + 1) _ _ _ _ (by omega) (by omega) hP hD hS (lv_sub hl [0, 1, 2, 3, 4, 5, 6, 7] rfl)
                exact L177 _ 0 _ _ _ _ (Nat.lt_succ_self _) (by omega) hP hD hS (lv_sub hl [0, 1, 2, 3, 4, 5, 6, 7] rfl)
              · have c_97 := nl_lt (k := g) (n := n) c_97 (by omega) (by omega)
                refine lv_iload hx hb dL_isLeaving_100 (lv_at hl 1 rfl) ?_
                refine lv_if_eq (x := 1) (tgt := 148) hx hb dL_isLeaving_102 (by decide) (fun k => absurd k (by decide)) (fun _ => ?_)
                refine lv_iload_n hx hb dL_isLeaving_105 rfl (lv_at hl 5 rfl) ?_
                refine lv_iload hx hb dL_isLeaving_106 (lv_at hl 0 rfl) ?_
                refine lv_ishr hx hb (x := (nI (sLeast F n))) (y := (nI g)) dL_isLeaving_108 ?_
                refine lv_iconst (v := 1) hx hb dL_isLeaving_109 (by decide) ?_
                refine lv_iand hx hb (x := ((nI (sLeast F n)) >>> ((nI g) &&& 31))) (y := 1) dL_isLeaving_110 ?_
                refine W.eq (g2 := F0 m9 111 ls (.int (bi ((sLeast F n).testBit g)) :: [])) (congrArg (fun z => F0 m9 111 ls (Value.int z :: [])) (bit_bi (sL_16 hw hs) (by omega))) ?_
                refine lv_if_eq (x := (bi ((sLeast F n).testBit g))) (tgt := 135) hx hb dL_isLeaving_111 (by decide) (fun c_111 => ?_) (fun c_111 => ?_)
                · have c_111 := bi_e0.mp c_111
                  have eF9 : (f2 F n g) = f2 F n (g + 1) := f2_skip c_111
                  rw [eF9] at hP hD
                  clear eF9
                  refine lv_iconst (v := 1) hx hb dL_isLeaving_135 (by decide) ?_
                  refine lv_goto (tgt := 140) hx hb dL_isLeaving_136 (by decide) ?_
                  refine lv_istore (lv' := [(6, .int 1), (7, .int (nI g)), (0, .ref (q 9)), (1, .ref qm), (2, .ref qp), (3, .int (nI (sLeast F n))), (4, .int (nI (pcn (sLeast F n)))), (5, .int (nI (pcn (sLeast F n))))]) hx hb dL_isLeaving_140 hl (by decide) rfl (fun ls hl => ?_)
                  refine lv_iinc (v := (nI (g + 1))) (lv' := [(7, .int (nI (g + 1))), (6, .int 1), (0, .ref (q 9)), (1, .ref qm), (2, .ref qp), (3, .int (nI (sLeast F n))), (4, .int (nI (pcn (sLeast F n)))), (5, .int (nI (pcn (sLeast F n))))]) hx hb dL_isLeaving_142 hl (k := 1) rfl (nI_add g 1) (by decide) rfl (fun ls hl => ?_)
                  refine lv_goto (tgt := 92) hx hb dL_isLeaving_145 (by decide) ?_
                  exact ih92 (g + 1) _ _ _ (by omega) (by omega) hP hD hS (lv_sub hl [0, 1, 2, 3, 4, 5, 6, 7] rfl)
                · have c_111 := bi_n0.mp c_111
                  refine lv_aload_n hx hb dL_isLeaving_114 rfl (lv_at hl 4 rfl) ?_
                  refine lv_iload hx hb dL_isLeaving_115 (lv_at hl 0 rfl) ?_
                  refine xiald (g := g) hx hb hK hP 11 0 rfl rfl (by omega) (by decide) dL_isLeaving_117 ?_
                  refine W.eq (g2 := F0 m9 118 ls (.int (F 7 g) :: [])) (congrArg (fun z => F0 m9 118 ls (Value.int z :: [])) (hPv g c_97)) ?_
                  refine lv_if_lt (x := (F 7 g)) (tgt := 139) hx hb dL_isLeaving_118 (by decide) (fun k => ((sL_n hw hs c_111).2 ((okP_neg (hw.p7 c_97)).mp k) : False).elim) (fun c_118 => ?_)
                  refine lv_aload_n hx hb dL_isLeaving_121 rfl (lv_at hl 2 rfl) ?_
                  refine lv_iload hx hb dL_isLeaving_122 (lv_at hl 0 rfl) ?_
                  refine lv_iconst (v := (-1)) hx hb dL_isLeaving_124 (by decide) ?_
                  refine wr_V (As := [.int (nI g), .int (-1)]) (rest := []) (wr := ([(qm, .inl (cI, 1, .inl (C))), (qp, .inl (cI, 16, .inl (Pv)))] : va_W)) ⟨hx, hb, hml, hown, hts⟩ (v_put l D q (f2 F n g) n R_11 cI cZ _ g (-1) (wf_f2 hw) c_97 (Or.inl rfl)) (cwV 2 hts gL_isLeaving_X0_put rfl rfl rfl (by decide +kernel) ⟨Nat.le_of_ble_eq_true rfl, Nat.le_of_ble_eq_true rfl⟩) hK hP hD hA [0, 1, 2, 3, 4, 5, 6, 7, 8, 9] [10, 11] rfl rfl (by decide) rfl (by decide) (by decide) (va_recv hK hP (ci := 0) (q0 := 0) rfl rfl) hS rfl hl.1 rfl (Nat.le_of_ble_eq_true rfl) dL_isLeaving_125 ⟨Nat.le_of_ble_eq_true rfl, Nat.le_of_ble_eq_true rfl⟩ (fun r9 u9 H locs h_125 hP hD hS => ?_)
                  obtain ⟨rfl, rfl⟩ := h_125
                  have hP : va_P D vwCl (wX q (fP (f2 F n g) g (-1)) (nI n) R_11 cI cZ ++ [(qm, .inl (cI, 1, .inl (C))), (qp, .inl (cI, 16, .inl (Pv)))]) H := hP.sub [2, 3, 4, 5, 6, 7, 8, 9, 10, 11, 0, 1] rfl
                  have hD : va_D A (wX q (fP (f2 F n g) g (-1)) (nI n) R_11 cI cZ ++ [(qm, .inl (cI, 1, .inl (C))), (qp, .inl (cI, 16, .inl (Pv)))]) := hD.sub [2, 3, 4, 5, 6, 7, 8, 9, 10, 11, 0, 1] (by decide) rfl
                  have eF9 : (fP (f2 F n g) g (-1)) = f2 F n (g + 1) := f2_put c_111
                  rw [eF9] at hP hD
                  clear eF9
                  refine W.eq (g2 := F0 m9 128 ls (.int (F 7 g) :: [])) (congrArg (fun z => F0 m9 128 ls (Value.int z :: [])) (f2_7)) ?_
                  refine lv_aload_n hx hb dL_isLeaving_128 rfl (lv_at hl 4 rfl) ?_
                  refine lv_iload hx hb dL_isLeaving_129 (lv_at hl 0 rfl) ?_
                  refine xiald (g := g) hx hb hK hP 11 0 rfl rfl (by omega) (by decide) dL_isLeaving_131 ?_
                  refine W.eq (g2 := F0 m9 132 ls (.int (F 7 g) :: [.int (F 7 g)])) (congrArg (fun z => F0 m9 132 ls (Value.int z :: [.int (F 7 g)])) (hPv g c_97)) ?_
                  refine lv_icmp_ne (x := (F 7 g)) (y := (F 7 g)) (tgt := 139) hx hb dL_isLeaving_132 (by decide) (fun k => (k rfl : False).elim) (fun c_132 => ?_)
                  refine lv_iconst (v := 1) hx hb dL_isLeaving_135 (by decide) ?_
                  refine lv_goto (tgt := 140) hx hb dL_isLeaving_136 (by decide) ?_
                  refine lv_istore (lv' := [(6, .int 1), (7, .int (nI g)), (0, .ref (q 9)), (1, .ref qm), (2, .ref qp), (3, .int (nI (sLeast F n))), (4, .int (nI (pcn (sLeast F n)))), (5, .int (nI (pcn (sLeast F n))))]) hx hb dL_isLeaving_140 hl (by decide) rfl (fun ls hl => ?_)
                  refine lv_iinc (v := (nI (g + 1))) (lv' := [(7, .int (nI (g + 1))), (6, .int 1), (0, .ref (q 9)), (1, .ref qm), (2, .ref qp), (3, .int (nI (sLeast F n))), (4, .int (nI (pcn (sLeast F n)))), (5, .int (nI (pcn (sLeast F n))))]) hx hb dL_isLeaving_142 hl (k := 1) rfl (nI_add g 1) (by decide) rfl (fun ls hl => ?_)
                  refine lv_goto (tgt := 92) hx hb dL_isLeaving_145 (by decide) ?_
                  exact ih92 (g + 1) _ _ _ (by omega) (by omega) hP hD hS (lv_sub hl [0, 1, 2, 3, 4, 5, 6, 7] rfl)
          have eF9 : F = f2 F n 0 := f2_0
          rw [eF9] at hP hD
          clear eF9
          exact L92 _ 0 _ _ _ (Nat.lt_succ_self _) (by omega) hP hD hS (lv_sub hl [0, 7, 2, 3, 4, 5, 6, 1] rfl)
        · have c_59 := nl_lt (k := a1) (n := n) c_59 (by omega) (by omega)
          refine lv_aload_n hx hb dL_isLeaving_62 rfl (lv_at hl 4 rfl) ?_
          refine lv_iload hx hb dL_isLeaving_63 (lv_at hl 0 rfl) ?_
          refine lv_aload_n hx hb dL_isLeaving_65 rfl (lv_at hl 2 rfl) ?_
          refine lv_iload hx hb dL_isLeaving_66 (lv_at hl 0 rfl) ?_
          refine ro_V (As := [.int (nI a1)]) (rest := [.int (nI a1), .ref qp]) ⟨hx, hb, hml, hown, hts⟩ (v_placeOf l D q F n R_11 cI cZ a1 hw c_59) (cwV 1 hts gL_isLeaving_X0_placeOf rfl rfl rfl (by decide +kernel) ⟨Nat.le_of_ble_eq_true rfl, Nat.le_of_ble_eq_true rfl⟩) hK hP (hP.sub [0, 1, 2, 3, 4, 5, 6, 7, 8, 9] rfl) (va_recv hK hP (ci := 0) (q0 := 0) rfl rfl) hS rfl hl.1 rfl (Nat.le_of_ble_eq_true rfl) dL_isLeaving_68 ⟨Nat.le_of_ble_eq_true rfl, Nat.le_of_ble_eq_true rfl⟩ (fun r9 H locs h_68 hP hS => ?_)
          obtain rfl := h_68
          refine xiast (g := a1) (x := (F 7 a1)) hx hb hK hP hD hS 11 0 rfl rfl (by omega) (by decide) dL_isLeaving_71 (fun H locs hP hD hS => ?_)
          have hP : va_P D vwCl (wX q F (nI n) R_11 cI cZ ++ [(qm, .inl (cI, 1, .inl (C))), (qp, .inl (cI, 16, .inl (upd Pv a1 (F 7 a1))))]) H := hP
          have hD : va_D A (wX q F (nI n) R_11 cI cZ ++ [(qm, .inl (cI, 1, .inl (C))), (qp, .inl (cI, 16, .inl (upd Pv a1 (F 7 a1))))]) := hD
          refine lv_iload hx hb dL_isLeaving_72 (lv_at hl 1 rfl) ?_
          refine lv_iload_n hx hb dL_isLeaving_74 rfl (lv_at hl 5 rfl) ?_
          refine lv_iload hx hb dL_isLeaving_75 (lv_at hl 0 rfl) ?_
          refine lv_ishr hx hb (x := (nI (sLeast F n))) (y := (nI a1)) dL_isLeaving_77 ?_
          refine lv_iconst (v := 1) hx hb dL_isLeaving_78 (by decide) ?_
          refine lv_iand hx hb (x := ((nI (sLeast F n)) >>> ((nI a1) &&& 31))) (y := 1) dL_isLeaving_79 ?_
          refine W.eq (g2 := F0 m9 80 ls (.int (bi ((sLeast F n).testBit a1)) :: [.int (nI (pb (sLeast F n) a1))])) (congrArg (fun z => F0 m9 80 ls (Value.int z :: [.int (nI (pb (sLeast F n) a1))])) (bit_bi (sL_16 hw hs) (by omega))) ?_
          refine lv_iadd hx hb (x := (nI (pb (sLeast F n) a1))) (y := (bi ((sLeast F n).testBit a1))) dL_isLeaving_80 ?_
          refine W.eq (g2 := F0 m9 81 ls (.int (nI (pb (sLeast F n) (a1 + 1))) :: [])) (congrArg (fun z => F0 m9 81 ls (Value.int z :: [])) (bi_add)) ?_
          refine lv_istore (lv' := [(5, .int (nI (pb (sLeast F n) (a1 + 1)))), (7, .int (nI a1)), (0, .ref (q 9)), (1, .ref qm), (2, .ref qp), (3, .int (nI (sLeast F n))), (4, .int (nI (pcn (sLeast F n)))), (6, .int 1)]) hx hb dL_isLeaving_81 hl (by decide) rfl (fun ls hl => ?_)
          refine lv_iinc (v := (nI (a1 + 1))) (lv' := [(7, .int (nI (a1 + 1))), (5, .int (nI (pb (sLeast F n) (a1 + 1)))), (0, .ref (q 9)), (1, .ref qm), (2, .ref qp), (3, .int (nI (sLeast F n))), (4, .int (nI (pcn (sLeast F n)))), (6, .int 1)]) hx hb dL_isLeaving_83 hl (k := 1) rfl (nI_add a1 1) (by decide) rfl (fun ls hl => ?_)
          refine lv_goto (tgt := 54) hx hb dL_isLeaving_86 (by decide) ?_
          exact ih54 (a1 + 1) (upd Pv a1 (F 7 a1)) _ _ _ (by omega) (by omega) (pv_s hPv1) hP hD hS (lv_sub hl [0, 1, 2, 3, 4, 5, 6, 7] rfl)
    exact L54 _ 0 (fun _ => 0) _ _ _ (Nat.lt_succ_self _) (by omega) (fun j hj => absurd hj (Nat.not_lt_zero _)) hP hD hS (lv_sub hl [0, 7, 2, 3, 4, 5, 6, 1] rfl)
  refine lv_iload hx hb dL_isLeaving_27 (lv_at hl 1 rfl) ?_
  refine lv_if_ne (x := (nI (pcn (sLeast F n)))) (tgt := 36) hx hb dL_isLeaving_29 (by decide) (fun c_29 => ?_) (fun c_29 => ?_)
  · have c_29 := nq_ne (k := (pcn (sLeast F n))) (n := 0) c_29 (by omega) (by omega)
    refine lv_iconst (v := 0) hx hb dL_isLeaving_36 (by decide) ?_
    refine lv_aload_n hx hb dL_isLeaving_37 rfl (lv_at hl 4 rfl) ?_
    refine ro_V (As := []) (rest := [.int 0]) ⟨hx, hb, hml, hown, hts⟩ (c_X0_isClean l D q F n R_11 cI cZ hw) (cwV 0 hts gL_isLeaving_X0_isClean rfl rfl rfl (by decide +kernel) ⟨Nat.le_of_ble_eq_true rfl, Nat.le_of_ble_eq_true rfl⟩) hK hP (hP.sub [0, 1, 2, 3, 4, 5, 6, 7, 8, 9] rfl) (va_recv hK hP (ci := 0) (q0 := 0) rfl rfl) hS rfl hl.1 rfl (Nat.le_of_ble_eq_true rfl) dL_isLeaving_38 ⟨Nat.le_of_ble_eq_true rfl, Nat.le_of_ble_eq_true rfl⟩ (fun r9 H locs h_38 hP hS => ?_)
    obtain rfl := h_38
    refine lv_icmp_ne (x := 0) (y := (bi (allB (fun k => sClean F n k (F 7 k)) n))) (tgt := 48) hx hb dL_isLeaving_41 (by decide) (fun k => (k (by rw [few_f hw hs c_29]; rfl) : False).elim) (fun c_41 => ?_)
    refine lv_iconst (v := 1) hx hb dL_isLeaving_44 (by decide) ?_
    refine lv_goto (tgt := 49) hx hb dL_isLeaving_45 (by decide) ?_
    exact J49  _ _ _  hP hD hS (lv_sub hl [4, 5, 3, 2, 1, 0] rfl)
  · have c_29 := nq_eq (k := (pcn (sLeast F n))) (n := 0) c_29 (by omega) (by omega)
    refine lv_iconst (v := 1) hx hb dL_isLeaving_32 (by decide) ?_
    refine lv_goto (tgt := 37) hx hb dL_isLeaving_33 (by decide) ?_
    refine lv_aload_n hx hb dL_isLeaving_37 rfl (lv_at hl 4 rfl) ?_
    refine ro_V (As := []) (rest := [.int 1]) ⟨hx, hb, hml, hown, hts⟩ (c_X0_isClean l D q F n R_11 cI cZ hw) (cwV 0 hts gL_isLeaving_X0_isClean rfl rfl rfl (by decide +kernel) ⟨Nat.le_of_ble_eq_true rfl, Nat.le_of_ble_eq_true rfl⟩) hK hP (hP.sub [0, 1, 2, 3, 4, 5, 6, 7, 8, 9] rfl) (va_recv hK hP (ci := 0) (q0 := 0) rfl rfl) hS rfl hl.1 rfl (Nat.le_of_ble_eq_true rfl) dL_isLeaving_38 ⟨Nat.le_of_ble_eq_true rfl, Nat.le_of_ble_eq_true rfl⟩ (fun r9 H locs h_38 hP hS => ?_)
    obtain rfl := h_38
    refine lv_icmp_ne (x := 1) (y := (bi (allB (fun k => sClean F n k (F 7 k)) n))) (tgt := 48) hx hb dL_isLeaving_41 (by decide) (fun k => (k (by rw [(few_0 hw hs).mp c_29]; rfl) : False).elim) (fun c_41 => ?_)
    refine lv_iconst (v := 1) hx hb dL_isLeaving_44 (by decide) ?_
    refine lv_goto (tgt := 49) hx hb dL_isLeaving_45 (by decide) ?_
    exact J49  _ _ _  hP hD hS (lv_sub hl [4, 5, 3, 2, 1, 0] rfl)

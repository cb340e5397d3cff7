/-! what the law asks of the plan -/
theorem qB_def {F : Nat → Nat → Int32} {i j : Nat} : qB F i j = (if F 7 i = -1 then false else if i = j then false else if F 7 j = -1 then false else decide (mApart (F 7 i) (F 7 j) < mNeed F i j)) := rfl
/-- wrong where they are -/
def wB9 (F : Nat → Nat → Int32) (i : Nat) : Bool := if F 7 i = -1 then false else mWrong F i (F 7 i)
/-- the plan without those of a set -/
def fG (F : Nat → Nat → Int32) (P : Nat → Bool) : Nat → Nat → Int32 := uF F 7 (fun j => if P j = true then -1 else F 7 j)
theorem fG_7 {F : Nat → Nat → Int32} {P : Nat → Bool} {j : Nat} : fG F P 7 j = if P j = true then -1 else F 7 j := rfl
theorem wB_fG {F : Nat → Nat → Int32} {P : Nat → Bool} {i : Nat} : wB9 (fG F P) i = (!(P i) && wB9 F i) := by
  unfold wB9
  rw [fG_7]
  cases e : P i with
  | true => simp
  | false => simp; rfl
theorem qB_fG {F : Nat → Nat → Int32} {P : Nat → Bool} {i j : Nat} : qB (fG F P) i j = (!(P i) && !(P j) && qB F i j) := by
  rw [qB_def, qB_def, fG_7, fG_7]
  cases e : P i <;> cases e2 : P j <;> simp
  · rfl
theorem wf_fG {F : Nat → Nat → Int32} {n : Nat} {P : Nat → Bool} (hw : WF F n) : WF (fG F P) n := by
  refine ⟨hw.1, hw.2.1, hw.2.2.1, fun k hk => ?_, hw.2.2.2.2.1, hw.2.2.2.2.2⟩
  rw [fG_7]
  split
  · exact Or.inl rfl
  · exact hw.p7 hk
theorem sy_fG {F : Nat → Nat → Int32} {P : Nat → Bool} (hs : SY F) : SY (fG F P) := hs
theorem fG_fP {F : Nat → Nat → Int32} {P Q : Nat → Bool} {k : Nat} {p : Int32} (h : ∀ j, (if Q j = true then -1 else F 7 j) = if j = k then p else if P j = true then -1 else F 7 j) : fP (fG F P) k p = fG F Q := by
  unfold fP fG uF
  funext a j
  by_cases ha : a = 7
  · subst ha
    show upd (fun j => if P j = true then -1 else F 7 j) k p j = (if Q j = true then -1 else F 7 j)
    rw [upd_c, h j]
  · have : Nat.beq a 7 = false := by
      cases e : Nat.beq a 7 with
      | false => rfl
      | true => exact absurd (Nat.eq_of_beq_eq_true e) ha
    simp only [this, cond_false]
theorem fG_ext {F : Nat → Nat → Int32} {P Q : Nat → Bool} (h : ∀ j, P j = Q j) : fG F P = fG F Q := by
  rw [show P = Q from funext h]
theorem fG_no {F : Nat → Nat → Int32} {P : Nat → Bool} (h : ∀ j, P j = false) : fG F P = F := by
  unfold fG uF
  funext a j
  by_cases ha : a = 7
  · subst ha
    show (if P j = true then -1 else F 7 j) = F 7 j
    rw [h j]; rfl
  · have : Nat.beq a 7 = false := by
      cases e : Nat.beq a 7 with
      | false => rfl
      | true => exact absurd (Nat.eq_of_beq_eq_true e) ha
    simp only [this, cond_false]
theorem fP_back {F : Nat → Nat → Int32} {k : Nat} {p : Int32} : fP (fP F k p) k (F 7 k) = F := by
  unfold fP uF
  funext a j
  by_cases ha : a = 7
  · subst ha
    show upd (upd (F 7) k p) k (F 7 k) j = F 7 j
    rw [upd_c]
    by_cases hj : j = k
    · rw [if_pos hj, hj]
    · rw [if_neg hj, upd_c, if_neg hj]
  · have : Nat.beq a 7 = false := by
      cases e : Nat.beq a 7 with
      | false => rfl
      | true => exact absurd (Nat.eq_of_beq_eq_true e) ha
    simp only [this, cond_false]
theorem fP_7 {F : Nat → Nat → Int32} {k : Nat} {p : Int32} : fP F k p 7 k = p := pk_us
/-! what is asked of goods at a place looks at the others' places alone -/
theorem sAt_cong {F E : Nat → Nat → Int32} {n g : Nat} {p : Int32} (h0 : ∀ a, a ≠ 7 → E a = F a) (h : ∀ j, j < n → j ≠ g → E 7 j = F 7 j) : sAt E n g p = sAt F n g p := by
  unfold sAt
  apply bs_cong
  intro k hk
  by_cases e : k = g
  · rw [if_pos e, if_pos e]
  · rw [if_neg e, if_neg e]
    unfold sBreach
    rw [h k hk e]
    have hn : sNeed E g k = sNeed F g k := by
      unfold sNeed sLim sExc sGreat sTab sWithin
      rw [h0 0 (by decide), h0 1 (by decide), h0 2 (by decide), h0 4 (by decide), h0 5 (by decide), h0 6 (by decide)]
    rw [hn]
theorem sMis_cong {F E : Nat → Nat → Int32} {g : Nat} {p : Int32} (h0 : ∀ a, a ≠ 7 → E a = F a) : sMis E g p = sMis F g p := by
  unfold sMis sBarred sExc sWithin
  rw [h0 2 (by decide), h0 3 (by decide), h0 4 (by decide), h0 5 (by decide), h0 6 (by decide)]
theorem fP_o {F : Nat → Nat → Int32} {k : Nat} {p : Int32} : ∀ a, a ≠ 7 → fP F k p a = F a := by
  intro a ha
  have : Nat.beq a 7 = false := by
    cases e : Nat.beq a 7 with
    | false => rfl
    | true => exact absurd (Nat.eq_of_beq_eq_true e) ha
  unfold fP uF
  simp only [this, cond_false]
theorem fG_o {F : Nat → Nat → Int32} {P : Nat → Bool} : ∀ a, a ≠ 7 → fG F P a = F a := by
  intro a ha
  have : Nat.beq a 7 = false := by
    cases e : Nat.beq a 7 with
    | false => rfl
    | true => exact absurd (Nat.eq_of_beq_eq_true e) ha
  unfold fG uF
  simp only [this, cond_false]
theorem fP_n {F : Nat → Nat → Int32} {k j : Nat} {p : Int32} (h : j ≠ k) : fP F k p 7 j = F 7 j := pk_un h
theorem at_p {F : Nat → Nat → Int32} {n x : Nat} {p r : Int32} : sAt (fP F x p) n x r = sAt F n x r := sAt_cong fP_o (fun j _ h => fP_n h)
theorem mis_p {F : Nat → Nat → Int32} {x : Nat} {p r : Int32} : sMis (fP F x p) x r = sMis F x r := sMis_cong fP_o
theorem clean_p {F : Nat → Nat → Int32} {n x : Nat} {p r : Int32} : sClean (fP F x p) n x r = sClean F n x r := by
  unfold sClean; rw [mis_p, at_p]
theorem for_p {F : Nat → Nat → Int32} {n x : Nat} {p : Int32} : sFor (fP F x p) n x = sFor F n x := by
  unfold sFor
  rw [show (fun k => sClean (fP F x p) n x (nI k)) = fun k => sClean F n x (nI k) from funext (fun k => clean_p)]
theorem for_low {F : Nat → Nat → Int32} {n x : Nat} : isLow (fun k => sClean F n x (nI k)) (sFor F n x) := lowV_low
theorem okP_put {p : Int32} (h : okP p) : p = -1 ∨ mIn p 0 47 = true := by
  rcases h with h | ⟨k, hk, rfl⟩
  · exact Or.inl h
  · refine Or.inr ?_
    have h1 : ¬ nI k < 0 := nI_pos (by omega)
    have h2 : ¬ (47 : Int32) < nI k := nI_nlt (a := 47) (b := k) (by omega) (by decide)
    simp [mIn, h1, h2]
theorem pl_in {k : Nat} (h : k < 48) : mIn (nI k) 0 47 = true := (okP_put (Or.inr ⟨k, h, rfl⟩)).resolve_left (nI_ne_m1 (by omega))
theorem bi_no {b : Bool} (h : b = true) (k : bi b = 0) : False := by subst h; exact absurd k (by decide)
theorem bi_yes {b : Bool} (h : b = false) (k : ¬ bi b = 0) : False := by subst h; exact k rfl
theorem okP_neg {p : Int32} (h : okP p) : p < 0 ↔ p = -1 := by
  rcases h with h | ⟨k, hk, rfl⟩
  · subst h; exact ⟨fun _ => rfl, fun _ => by decide⟩
  · exact ⟨fun q => absurd q (nI_pos (by omega)), fun q => absurd q (nI_ne_m1 (by omega))⟩
/-! the set of those who leave -/
theorem best_of {F : Nat → Nat → Int32} {n : Nat} (hw : WF F n) (hs : SY F) : Best (fun g => mFoes F n g) n (mWrongs F n) (mAb F n) (sLeast F n) := by
  rw [least_eq hw hs]; exact mLeast_Best hw hs
theorem cl_iff {F : Nat → Nat → Int32} {n S : Nat} : Cl (fun g => mFoes F n g) n (mWrongs F n) S ↔ (∀ g, g < n → wB9 F g = true → S.testBit g = true) ∧ ∀ g, g < n → S.testBit g = false → ∀ j, j < n → qB F g j = true → S.testBit j = true := by
  constructor
  · rintro ⟨h1, h2⟩
    refine ⟨fun g hg h => h1 g ?_, fun g hg h0 j hj h => h2 g hg h0 j ?_⟩
    · rw [wr_bit, decide_eq_true hg, Bool.true_and]; exact h
    · show (mFoes F n g).testBit j = true
      rw [foes_bit, decide_eq_true hj, Bool.true_and]; exact h
  · rintro ⟨h1, h2⟩
    refine ⟨fun j h => ?_, fun g hg h0 j h => ?_⟩
    · rw [wr_bit, Bool.and_eq_true, decide_eq_true_eq] at h
      exact h1 j h.1 h.2
    · have h : (mFoes F n g).testBit j = true := h
      rw [foes_bit, Bool.and_eq_true, decide_eq_true_eq] at h
      exact h2 g hg h0 j h.1 h.2
theorem sL_n {F : Nat → Nat → Int32} {n j : Nat} (hw : WF F n) (hs : SY F) (h : (sLeast F n).testBit j = true) : j < n ∧ ¬ F 7 j = -1 := by
  have h1 := (best_of hw hs).1 j h
  rw [ab_bit, Bool.and_eq_true, decide_eq_true_eq] at h1
  refine ⟨h1.1, fun e => ?_⟩
  have h2 := h1.2
  rw [if_pos e] at h2
  cases h2
theorem sL_lt {F : Nat → Nat → Int32} {n : Nat} (hw : WF F n) (hs : SY F) : sLeast F n < 2 ^ n := by
  apply Nat.lt_pow_two_of_testBit
  intro i hi
  apply tb_f
  intro e
  have := (sL_n hw hs e).1
  omega
theorem sL_16 {F : Nat → Nat → Int32} {n : Nat} (hw : WF F n) (hs : SY F) : sLeast F n < 65536 := Nat.lt_of_lt_of_le (sL_lt hw hs) (Nat.pow_le_pow_right (n := 2) (by decide) hw.n)
/-- clean: nobody is wrong or in breach -/
theorem clean_q {F : Nat → Nat → Int32} {n : Nat} (hw : WF F n) : allB (fun k => sClean F n k (F 7 k)) n = true ↔ Cl (fun g => mFoes F n g) n (mWrongs F n) 0 := by
  rw [clean_eq hw]
  exact cw_iff (bs_16 hw.n) (fun g _ => bs_16 hw.n)
theorem pc_0 {S : Nat} (h : S < 65536) (h0 : pcn S = 0) : S = 0 := by
  have h1 : Sub 0 S := fun j k => absurd k (by rw [Nat.zero_testBit]; decide)
  exact (pc_inj h h1 (by rw [h0]; exact Nat.zero_le _)).symm
theorem few_0 {F : Nat → Nat → Int32} {n : Nat} (hw : WF F n) (hs : SY F) : pcn (sLeast F n) = 0 ↔ allB (fun k => sClean F n k (F 7 k)) n = true := by
  rw [clean_q hw]
  have hb := best_of hw hs
  constructor
  · intro h
    have e := pc_0 (sL_16 hw hs) h
    have h1 := hb.2.1
    rw [e] at h1
    exact h1
  · intro h
    have h0 : pcn 0 = 0 := pcF_0 16
    have h1 : Sub 0 (mAb F n) := fun j k => absurd k (by rw [Nat.zero_testBit]; decide)
    have := hb.2.2 0 h1 h
    omega
/-- how many of the first k are in a set -/
def pb (S : Nat) : Nat → Nat
  | 0 => 0
  | k + 1 => pb S k + (if S.testBit k = true then 1 else 0)
theorem pb_half (S : Nat) : ∀ k, pb S (k + 1) = (if S.testBit 0 = true then 1 else 0) + pb (S / 2) k
  | 0 => by simp [pb]
  | k + 1 => by
    have ih := pb_half S k
    show pb S (k + 1) + (if S.testBit (k + 1) = true then 1 else 0) = _ + (pb (S / 2) k + (if (S / 2).testBit k = true then 1 else 0))
    rw [ih, Nat.testBit_add_one]
    omega
theorem pb_pcF : ∀ (f S : Nat), pb S f = pcF f S
  | 0, _ => rfl
  | f + 1, S => by
    rw [pb_half, pb_pcF f (S / 2)]
    show _ = S % 2 + pcF f (S / 2)
    rw [Nat.testBit_zero]
    rcases Nat.mod_two_eq_zero_or_one S with h | h <;> rw [h] <;> simp
theorem pb_tail {S n : Nat} (h : S < 2 ^ n) : ∀ N, n ≤ N → pb S N = pb S n
  | 0, hn => by rw [show n = 0 by omega]
  | N + 1, hn => by
    rcases Nat.lt_or_ge N n with q | q
    · rw [show N + 1 = n by omega]
    · show pb S N + _ = _
      rw [pb_tail h N q, Nat.testBit_lt_two_pow (Nat.lt_of_lt_of_le h (Nat.pow_le_pow_right (n := 2) (by decide) q))]
      rfl
theorem pb_all {F : Nat → Nat → Int32} {n : Nat} (hw : WF F n) (hs : SY F) : pb (sLeast F n) n = pcn (sLeast F n) := by
  rw [← pb_tail (sL_lt hw hs) 16 hw.n]
  exact pb_pcF 16 _
theorem pb_le (S : Nat) : ∀ k, pb S k ≤ k
  | 0 => Nat.le_refl _
  | k + 1 => by have := pb_le S k; unfold pb; split <;> omega
theorem bit_bi {S k : Nat} (hS : S < 65536) (hk : k < 32) : (nI S >>> (nI k &&& 31)) &&& 1 = bi (S.testBit k) := by
  cases e : S.testBit k with
  | true => exact (bit_i hS hk).mpr e
  | false =>
    have h : (nI S >>> (nI k &&& 31)) &&& 1 = nI (S / 2 ^ k % 2) := by
      rw [pk_shrN (by omega) _ k (sm_31 k hk), show (1 : Int32) = nI 1 from rfl, nI_and, Nat.and_one_is_mod]
    rw [h]
    rw [Nat.testBit_eq_decide_div_mod_eq] at e
    have h2 : ¬ S / 2 ^ k % 2 = 1 := of_decide_eq_false e
    have h3 : S / 2 ^ k % 2 = 0 := by omega
    rw [h3]; rfl
theorem shr_0 {S n : Nat} (hS : S < 2 ^ n) (hn : n < 31) : nI S >>> (nI n &&& 31) = 0 := by
  have h31 : (2 : Nat) ^ n < 2 ^ 31 := Nat.pow_lt_pow_right (by decide) hn
  rw [pk_shrN (by omega) _ n (sm_31 n (by omega)), Nat.div_eq_of_lt hS]
  rfl
theorem bi_add {a : Nat} {b : Bool} : nI a + bi b = nI (a + (if b = true then 1 else 0)) := by
  cases b
  · show nI a + nI 0 = _
    rw [nI_add]; rfl
  · show nI a + nI 1 = _
    rw [nI_add]; rfl
/-- the plan without all of them -/
def fL (F : Nat → Nat → Int32) (n : Nat) : Nat → Nat → Int32 := fG F (fun j => (sLeast F n).testBit j)
theorem wf_fL {F : Nat → Nat → Int32} {n : Nat} (hw : WF F n) : WF (fL F n) n := wf_fG hw
theorem cl_zero {F : Nat → Nat → Int32} {n : Nat} : Cl (fun g => mFoes F n g) n (mWrongs F n) 0 ↔ (∀ g, g < n → wB9 F g = false) ∧ ∀ g, g < n → ∀ j, j < n → qB F g j = false := by
  rw [cl_iff]
  constructor
  · rintro ⟨h1, h2⟩
    refine ⟨fun g hg => tb_f (fun e => ?_), fun g hg j hj => tb_f (fun e => ?_)⟩
    · have := h1 g hg e; rw [Nat.zero_testBit] at this; cases this
    · have := h2 g hg (Nat.zero_testBit _) j hj e; rw [Nat.zero_testBit] at this; cases this
  · rintro ⟨h1, h2⟩
    exact ⟨fun g hg e => absurd e (by rw [h1 g hg]; decide), fun g hg _ j hj e => absurd e (by rw [h2 g hg j hj]; decide)⟩
theorem clean_fL {F : Nat → Nat → Int32} {n : Nat} (hw : WF F n) (hs : SY F) : allB (fun k => sClean (fL F n) n k (fL F n 7 k)) n = true := by
  rw [clean_q (wf_fL hw), cl_zero]
  obtain ⟨h1, h2⟩ := cl_iff.mp (best_of hw hs).2.1
  constructor
  · intro g hg
    unfold fL
    rw [wB_fG]
    cases e : (sLeast F n).testBit g with
    | true => rfl
    | false =>
      cases e2 : wB9 F g with
      | false => rfl
      | true => rw [h1 g hg e2] at e; cases e
  · intro g hg j hj
    unfold fL
    rw [qB_fG]
    cases e : (sLeast F n).testBit g with
    | true => rfl
    | false =>
      cases e3 : (sLeast F n).testBit j with
      | true => rfl
      | false =>
        cases e2 : qB F g j with
        | false => rfl
        | true => rw [h2 g hg e j hj e2] at e3; cases e3
/-- what holds of goods that could stay where they are -/
theorem stay {F : Nat → Nat → Int32} {n k : Nat} (hw : WF F n) (hs : SY F) (hk : k < n) (hb : (sLeast F n).testBit k = true) (h : sClean (fL F n) n k (F 7 k) = true) : wB9 F k = false ∧ ∀ j, j < n → (sLeast F n).testBit j = false → qB F k j = false := by
  have h7 := (sL_n hw hs hb).2
  obtain ⟨h1, h2⟩ := (clean_iff hw.n).mp h
  constructor
  · unfold wB9
    rw [if_neg h7, ← mis_eq hw hk (hw.p7 hk) h7, ← sMis_cong (E := fL F n) fG_o]
    exact h1
  · intro j hj hj0
    have hne : ¬ j = k := by intro e; rw [e, hb] at hj0; cases hj0
    have h3 := h2 j hj
    rw [if_neg hne] at h3
    rw [qB_br hw hk hj (fun e => hne e.symm)]
    have e7 : fL F n 7 j = F 7 j := by
      unfold fL; rw [fG_7, hj0]; rfl
    have : sBreach (fL F n) k (F 7 k) j = sBreach F k (F 7 k) j := by
      unfold sBreach
      rw [e7]
      have hn : sNeed (fL F n) k j = sNeed F k j := rfl
      rw [hn]
    rw [← this]; exact h3
theorem no_stay {F : Nat → Nat → Int32} {n k : Nat} (hw : WF F n) (hs : SY F) (hk : k < n) (hb : (sLeast F n).testBit k = true) : sClean (fL F n) n k (F 7 k) = false := by
  apply tb_f
  intro h
  obtain ⟨h1, h2⟩ := stay hw hs hk hb h
  have hB := best_of hw hs
  obtain ⟨c1, c2⟩ := cl_iff.mp hB.2.1
  have hx : ∀ j, (sLeast F n ^^^ 2 ^ k).testBit j = ((sLeast F n).testBit j && !(decide (k = j))) := by
    intro j
    rw [Nat.testBit_xor, Nat.testBit_two_pow]
    by_cases e2 : k = j
    · subst e2; simp [hb]
    · simp [e2]
  have hsub : Sub (sLeast F n ^^^ 2 ^ k) (sLeast F n) := fun j hj => by rw [hx j, Bool.and_eq_true] at hj; exact hj.1
  have hcl : Cl (fun g => mFoes F n g) n (mWrongs F n) (sLeast F n ^^^ 2 ^ k) := by
    refine cl_iff.mpr ⟨fun g hg e => ?_, fun g hg e0 j hj e => ?_⟩
    · rw [hx g, c1 g hg e, Bool.true_and]
      have : ¬ k = g := by intro q; rw [← q, h1] at e; cases e
      simp [this]
    · by_cases hgk : g = k
      · subst hgk
        have hjb : (sLeast F n).testBit j = true := by
          cases e3 : (sLeast F n).testBit j with
          | true => rfl
          | false => rw [h2 j hj e3] at e; cases e
        have : ¬ g = j := by intro q; rw [← q, qB_self] at e; cases e
        rw [hx j, hjb]; simp [this]
      · have e4 : (sLeast F n).testBit g = false := by
          rw [hx g] at e0
          have : ¬ k = g := fun q => hgk q.symm
          simpa [this] using e0
        have hjb := c2 g hg e4 j hj e
        have : ¬ k = j := by
          intro q
          subst q
          rw [qB_sym hw hs hg hj, h2 g hg e4] at e
          cases e
        rw [hx j, hjb]; simp [this]
  have h6 := hB.2.2 _ (hsub.tr hB.1) hcl
  have h7 : ¬ pcn (sLeast F n) ≤ pcn (sLeast F n ^^^ 2 ^ k) := by
    intro q
    have h8 := pc_inj (sL_16 hw hs) hsub q
    have h9 := hx k
    rw [h8, hb] at h9
    simp at h9
  omega
/-- one of them back where it was -/
def fK (F : Nat → Nat → Int32) (n k : Nat) : Nat → Nat → Int32 := fG F (fun j => (sLeast F n).testBit j && !(decide (j = k)))
theorem wf_fK {F : Nat → Nat → Int32} {n k : Nat} (hw : WF F n) : WF (fK F n k) n := wf_fG hw
theorem fL_put {F : Nat → Nat → Int32} {n k : Nat} (_ : (sLeast F n).testBit k = true) : fP (fL F n) k (F 7 k) = fK F n k := by
  unfold fL fK
  apply fG_fP
  intro j
  by_cases e : j = k
  · subst e; simp
  · simp [e]
theorem fK_put {F : Nat → Nat → Int32} {n k : Nat} (hb : (sLeast F n).testBit k = true) : fP (fK F n k) k (-1) = fL F n := by
  unfold fL fK
  apply fG_fP
  intro j
  by_cases e : j = k
  · subst e; simp [hb]
  · simp [e]
theorem one_left {F : Nat → Nat → Int32} {n k : Nat} (hw : WF F n) (hs : SY F) (hk : k < n) (hb : (sLeast F n).testBit k = true) : pcn (sLeast (fK F n k) n) = 1 ∧ ¬ sLeast (fK F n k) n = 0 := by
  have hB := best_of (wf_fK (k := k) hw) (sy_fG hs : SY (fK F n k))
  obtain ⟨c1, c2⟩ := cl_iff.mp (best_of hw hs).2.1
  have hwK : ∀ j, wB9 (fK F n k) j = (!((sLeast F n).testBit j && !(decide (j = k))) && wB9 F j) := fun j => wB_fG
  have hqK : ∀ i j, qB (fK F n k) i j = (!((sLeast F n).testBit i && !(decide (i = k))) && !((sLeast F n).testBit j && !(decide (j = k))) && qB F i j) := fun i j => qB_fG
  have hab : Sub (2 ^ k) (mAb (fK F n k) n) := by
    apply sub_pow
    rw [ab_bit, decide_eq_true hk, Bool.true_and]
    have e7 : fK F n k 7 k = F 7 k := by unfold fK; rw [fG_7]; simp
    rw [e7, if_neg (sL_n hw hs hb).2]
  have hcl : Cl (fun g => mFoes (fK F n k) n g) n (mWrongs (fK F n k) n) (2 ^ k) := by
    refine cl_iff.mpr ⟨fun g hg e => ?_, fun g hg e0 j hj e => ?_⟩
    · rw [hwK, Bool.and_eq_true] at e
      have h1 := c1 g hg e.2
      have h2 := e.1
      rw [h1] at h2
      rw [Nat.testBit_two_pow]
      simp at h2
      simp [h2]
    · rw [Nat.testBit_two_pow] at e0 ⊢
      have hgk : ¬ g = k := by intro q; rw [q] at e0; simp at e0
      rw [hqK, Bool.and_eq_true, Bool.and_eq_true] at e
      have hg0 : (sLeast F n).testBit g = false := by
        have := e.1.1
        simpa [hgk] using this
      have hj1 := c2 g hg hg0 j hj e.2
      have := e.1.2
      rw [hj1] at this
      simp at this
      simp [this]
  have hle := hB.2.2 _ hab hcl
  have hp1 : pcn (2 ^ k) = 1 := by
    have hk16 : k < 16 := Nat.lt_of_lt_of_le hk hw.n
    have : ∀ i, i < 16 → pcn (2 ^ i) = 1 := by decide +kernel
    exact this k hk16
  have hne : ¬ sLeast (fK F n k) n = 0 := by
    intro e
    have h0 := hB.2.1
    rw [e] at h0
    obtain ⟨z1, z2⟩ := cl_zero.mp h0
    have h3 := no_stay hw hs hk hb
    have h4 : sClean (fL F n) n k (F 7 k) = true := by
      refine (clean_iff hw.n).mpr ⟨?_, fun j hj => ?_⟩
      · have h5 := z1 k hk
        rw [hwK] at h5
        have h7 := (sL_n hw hs hb).2
        have h6 : wB9 F k = false := by simpa using h5
        unfold wB9 at h6
        rw [if_neg h7, ← mis_eq hw hk (hw.p7 hk) h7] at h6
        exact (sMis_cong (E := fL F n) fG_o).trans h6
      · by_cases hjk : j = k
        · rw [if_pos hjk]
        · rw [if_neg hjk]
          cases e3 : (sLeast F n).testBit j with
          | true =>
            have e7 : fL F n 7 j = -1 := by unfold fL; rw [fG_7, e3]; rfl
            unfold sBreach
            rw [e7]
            by_cases q : F 7 k = -1
            · rw [if_pos q]
            · rw [if_neg q, if_pos rfl]
          | false =>
            have e7 : fL F n 7 j = F 7 j := by unfold fL; rw [fG_7, e3]; rfl
            have h5 := z2 k hk j hj
            rw [hqK, e3] at h5
            have h6 : qB F k j = false := by simpa using h5
            rw [qB_br hw hk hj (fun q => hjk q.symm)] at h6
            have : sBreach (fL F n) k (F 7 k) j = sBreach F k (F 7 k) j := by
              unfold sBreach
              rw [e7]
              have hn : sNeed (fL F n) k j = sNeed F k j := rfl
              rw [hn]
            rw [this]; exact h6
    rw [h3] at h4
    cases h4
  have hpos : ¬ pcn (sLeast (fK F n k) n) = 0 := fun e => hne (pc_0 (sL_16 (wf_fK hw) (sy_fG hs)) e)
  exact ⟨by omega, hne⟩

/-! the class and the reference answer alike -/
theorem d48 {P : Int32 → Int32 → Bool} (h : allB (fun i => allB (fun j => P (nI i) (nI j)) 48) 48 = true) {i j : Nat} (hi : i < 48) (hj : j < 48) : P (nI i) (nI j) = true := allB_at (allB_at h i hi) j hj
theorem dist_c : allB (fun i => allB (fun j => decide (sDist (nI i) (nI j) = mApart (nI i) (nI j))) 48) 48 = true := by decide +kernel
theorem dist_s : allB (fun i => allB (fun j => decide (sDist (nI i) (nI j) = sDist (nI j) (nI i))) 48) 48 = true := by decide +kernel
theorem dist_eq {i j : Nat} (hi : i < 48) (hj : j < 48) : sDist (nI i) (nI j) = mApart (nI i) (nI j) := of_decide_eq_true (d48 (P := fun a b => decide (sDist a b = mApart a b)) dist_c hi hj)
theorem dist_sym {i j : Nat} (hi : i < 48) (hj : j < 48) : sDist (nI i) (nI j) = sDist (nI j) (nI i) := of_decide_eq_true (d48 (P := fun a b => decide (sDist a b = sDist b a)) dist_s hi hj)
theorem okP_k {p : Int32} (h : okP p) (h1 : ¬ p = -1) : ∃ k, k < 48 ∧ p = nI k := h.elim (fun e => absurd e h1) id
theorem dist_eqP {p r : Int32} (hp : okP p) (hr : okP r) (h1 : ¬ p = -1) (h2 : ¬ r = -1) : sDist p r = mApart p r := by
  obtain ⟨i, hi, rfl⟩ := okP_k hp h1
  obtain ⟨j, hj, rfl⟩ := okP_k hr h2
  exact dist_eq hi hj
theorem dist_symP {p r : Int32} (hp : okP p) (hr : okP r) (h1 : ¬ p = -1) (h2 : ¬ r = -1) : sDist p r = sDist r p := by
  obtain ⟨i, hi, rfl⟩ := okP_k hp h1
  obtain ⟨j, hj, rfl⟩ := okP_k hr h2
  exact dist_sym hi hj
theorem tab_eq {F : Nat → Nat → Int32} {c d : Int32} (hc : okC c) (hd : okC d) : sTab F c d = mTab F c d := by
  unfold sTab mTab
  by_cases h1 : c = -1
  · simp [h1]
  by_cases h2 : d = -1
  · simp [h2]
  obtain ⟨i, -, e1, e2⟩ := tab_ix hc hd h1 h2
  rw [e1, e2]
theorem max_eq (x y : Int32) : iMax x y = mGt x y := by
  unfold iMax mGt
  by_cases h : x < y
  · rw [if_pos h, if_pos (Int32.le_of_lt h)]
  · rw [if_neg h]
    by_cases h2 : x ≤ y
    · rw [if_pos h2]; exact Int32.le_antisymm h2 (Int32.not_lt.mp h)
    · rw [if_neg h2]
theorem great_eq {F : Nat → Nat → Int32} {n g h : Nat} (hw : WF F n) (hg : g < n) (hh : h < n) : sGreat F g h = mGreat F g h := by
  unfold sGreat mGreat
  rw [tab_eq (hw.c4 hg) (hw.c4 hh), tab_eq (hw.c4 hg) (hw.c5 hh), tab_eq (hw.c5 hg) (hw.c4 hh), tab_eq (hw.c5 hg) (hw.c5 hh)]
  simp only [max_eq]
def isD (x : Int32) : Prop := ∃ d, d ≤ 4 ∧ x = nI d
theorem tab_d {F : Nat → Nat → Int32} {n : Nat} {c d : Int32} (hw : WF F n) (hc : okC c) (hd : okC d) : isD (sTab F c d) := by
  unfold sTab
  by_cases h1 : c = -1
  · rw [if_pos h1]; exact ⟨0, by decide, rfl⟩
  rw [if_neg h1]
  by_cases h2 : d = -1
  · rw [if_pos h2]; exact ⟨0, by decide, rfl⟩
  rw [if_neg h2]
  obtain ⟨i, hi, e1, -⟩ := tab_ix hc hd h1 h2
  rw [e1, nI_clamp (by omega)]
  exact hw.t0 hi
theorem max_d {x y : Int32} (hx : isD x) (hy : isD y) : isD (iMax x y) := by
  unfold iMax; split
  · exact hy
  · exact hx
theorem great_d {F : Nat → Nat → Int32} {n g h : Nat} (hw : WF F n) (hg : g < n) (hh : h < n) : isD (sGreat F g h) :=
  max_d (max_d (tab_d hw (hw.c4 hg) (hw.c4 hh)) (tab_d hw (hw.c4 hg) (hw.c5 hh))) (max_d (tab_d hw (hw.c5 hg) (hw.c4 hh)) (tab_d hw (hw.c5 hg) (hw.c5 hh)))
theorem dec_d {x : Int32} (h : isD x) : iMax (x - 1) 0 = if x ≤ 0 then x else x - 1 := by
  obtain ⟨d, hd, rfl⟩ := h
  rcases (show d = 0 ∨ d = 1 ∨ d = 2 ∨ d = 3 ∨ d = 4 by omega) with rfl | rfl | rfl | rfl | rfl <;> decide
theorem need_eq {F : Nat → Nat → Int32} {n g h : Nat} (hw : WF F n) (hg : g < n) (hh : h < n) : sNeed F g h = mNeed F g h := by
  have hd := great_d hw hg hh
  have e := dec_d hd
  unfold sNeed mNeed
  rw [← great_eq hw hg hh]
  cases sExc F g <;> cases sExc F h <;> cases sLim F g <;> cases sLim F h <;> simp [e]
theorem foe_eq {F : Nat → Nat → Int32} {n g h : Nat} {p : Int32} (hw : WF F n) (hg : g < n) (hh : h < n) (hp : okP p) (h1 : ¬ p = -1) : (if h = g then false else sBreach F g p h) = mFoe F g h p := by
  unfold mFoe sBreach
  by_cases e : h = g
  · rw [if_pos e, if_pos e.symm]
  rw [if_neg e, if_neg h1, if_neg (fun k : g = h => e k.symm)]
  by_cases h2 : F 7 h = -1
  · rw [if_pos h2, if_pos h2]
  rw [if_neg h2, if_neg h2, dist_eqP hp (hw.p7 hh) h1 h2, need_eq hw hg hh]
theorem bs_cong {P Q : Nat → Bool} : ∀ {n : Nat}, (∀ k, k < n → P k = Q k) → bs P n = bs Q n
  | 0, _ => rfl
  | n + 1, h => by unfold bs; rw [bs_cong (fun k hk => h k (by omega)), h n (by omega)]
theorem at_eq {F : Nat → Nat → Int32} {n g : Nat} (hw : WF F n) (hg : g < n) : sAt F n g (F 7 g) = mFoes F n g := by
  unfold sAt mFoes
  apply bs_cong
  intro k hk
  by_cases h1 : F 7 g = -1
  · rw [if_pos h1, h1]
    by_cases e : k = g
    · rw [if_pos e]
    · rw [if_neg e]; rfl
  · rw [if_neg h1]; exact foe_eq hw hg hk (hw.p7 hg) h1
theorem breach_eq {F : Nat → Nat → Int32} {n g h : Nat} (hw : WF F n) (hg : g < n) (hh : h < n) (hne : ¬ g = h) : sBreach F g (F 7 g) h = (if F 7 g = -1 then false else mFoe F g h (F 7 g)) := by
  by_cases h1 : F 7 g = -1
  · rw [if_pos h1, h1]; rfl
  · rw [if_neg h1, ← foe_eq hw hg hh (hw.p7 hg) h1, if_neg (fun k => hne k.symm)]
theorem barred_eq {F : Nat → Nat → Int32} {c d : Int32} (hc : okC c) (hd : d = 0 ∨ d = 1) : sBarred F c d = (if c = -1 then false else if F 3 (2 * c + d).toNatClampNeg = 0 then false else true) := by
  unfold sBarred
  by_cases h1 : c = -1
  · rw [if_pos h1, if_pos h1]
  rw [if_neg h1, if_neg h1]
  obtain ⟨i, -, e1, e2⟩ := bar_ix hc h1 hd
  rw [e1, e2]
  by_cases h2 : F 3 (nI i).toNatClampNeg = 0 <;> simp [h2]
theorem mis_eq {F : Nat → Nat → Int32} {n g : Nat} {p : Int32} (hw : WF F n) (hg : g < n) (hp : okP p) (h1 : ¬ p = -1) : sMis F g p = mWrong F g p := by
  unfold sMis mWrong mBar2
  have hd : sDeck p = 0 ∨ sDeck p = 1 := deck_01 hp h1
  rw [if_neg h1, barred_eq (hw.c4 hg) hd, barred_eq (hw.c5 hg) hd, if_neg (hw.c4n hg)]
  cases sExc F g <;> by_cases a : F 3 (2 * F 4 g + sDeck p).toNatClampNeg = 0 <;> by_cases b : F 5 g = -1 <;> by_cases c : F 3 (2 * F 5 g + sDeck p).toNatClampNeg = 0 <;> simp [a, b, c]
theorem mis7_eq {F : Nat → Nat → Int32} {n g : Nat} (hw : WF F n) (hg : g < n) : sMis F g (F 7 g) = (if F 7 g = -1 then false else mWrong F g (F 7 g)) := by
  by_cases h1 : F 7 g = -1
  · rw [if_pos h1, h1]; rfl
  · rw [if_neg h1]; exact mis_eq hw hg (hw.p7 hg) h1
theorem bs_0 {P : Nat → Bool} : ∀ {n : Nat}, bs P n = 0 ↔ ∀ k, k < n → P k = false
  | 0 => ⟨fun _ k hk => absurd hk (Nat.not_lt_zero _), fun _ => rfl⟩
  | n + 1 => by
    constructor
    · intro h k hk
      unfold bs at h
      have h1 : bs P n = 0 := by omega
      have h2 : P n = false := by
        cases e : P n with
        | false => rfl
        | true => rw [e, if_pos rfl] at h; have := Nat.two_pow_pos n; omega
      rcases Nat.lt_or_ge k n with q | q
      · exact bs_0.mp h1 k q
      · rw [show k = n by omega]; exact h2
    · intro h
      unfold bs
      rw [bs_0.mpr (fun k hk => h k (by omega)), h n (by omega)]; rfl
theorem nI_0iff {a : Nat} (h : a < 2 ^ 31) : nI a = 0 ↔ a = 0 := nI_eq (b := 0) h (by decide)
theorem allB_all {P : Nat → Bool} : ∀ {n : Nat}, (∀ k, k < n → P k = true) → allB P n = true
  | 0, _ => rfl
  | n + 1, h => allB_t (allB_all (fun k hk => h k (by omega))) (h n (by omega))
theorem bool_iff {a b : Bool} (h : a = true ↔ b = true) : a = b := by
  cases a <;> cases b <;> simp at h ⊢
theorem clean_iff {F : Nat → Nat → Int32} {n g : Nat} {p : Int32} (hn : n ≤ 16) : sClean F n g p = true ↔ sMis F g p = false ∧ ∀ k, k < n → (if k = g then false else sBreach F g p k) = false := by
  unfold sClean
  have h16 : sAt F n g p < 65536 := bs_16 hn
  cases e : sMis F g p with
  | true => simp
  | false =>
    simp only [Bool.false_eq_true, if_false, true_and]
    by_cases h : sAt F n g p = 0
    · rw [h, if_pos (by rfl)]; exact ⟨fun _ => bs_0.mp h, fun _ => rfl⟩
    · rw [if_neg (fun k => h ((nI_0iff (by omega)).mp k))]
      exact ⟨fun k => absurd k (by decide), fun k => absurd (bs_0.mpr k) h⟩
theorem good_iff {F : Nat → Nat → Int32} {n g : Nat} {p : Int32} : mGood F n g p = true ↔ mWrong F g p = false ∧ ∀ k, k < n → mFoe F g k p = false := by
  unfold mGood gdK
  cases e : mWrong F g p with
  | true => simp
  | false =>
    simp only [Bool.false_eq_true, if_false, true_and]
    constructor
    · intro h k hk
      have := allB_at h k hk
      cases e2 : mFoe F g k p with
      | false => rfl
      | true => simp [gFoe, e2] at this
    · intro h; exact allB_all (fun k hk => by simp [gFoe, h k hk])
theorem good_eq {F : Nat → Nat → Int32} {n g : Nat} {p : Int32} (hw : WF F n) (hg : g < n) (hp : okP p) (h1 : ¬ p = -1) : sClean F n g p = mGood F n g p := by
  apply bool_iff
  rw [clean_iff hw.n, good_iff, mis_eq hw hg hp h1]
  constructor
  · rintro ⟨a, b⟩; exact ⟨a, fun k hk => by rw [← foe_eq hw hg hk hp h1]; exact b k hk⟩
  · rintro ⟨a, b⟩; exact ⟨a, fun k hk => by rw [foe_eq hw hg hk hp h1]; exact b k hk⟩
theorem low_eq {F : Nat → Nat → Int32} {n g : Nat} (hw : WF F n) (hg : g < n) {r : Int32} (h : isLow (fun k => mGood F n g (nI k)) r) : isLow (fun k => sClean F n g (nI k)) r := by
  have e : ∀ k, k < 48 → sClean F n g (nI k) = mGood F n g (nI k) := fun k hk => good_eq hw hg (Or.inr ⟨k, hk, rfl⟩) (nI_ne_m1 (by omega))
  rcases h with ⟨h1, h2⟩ | ⟨k, h1, h2, h3, h4⟩
  · exact Or.inl ⟨h1, fun k hk => by show sClean F n g (nI k) = false; rw [e k hk]; exact h2 k hk⟩
  · exact Or.inr ⟨k, h1, h2, by show sClean F n g (nI k) = true; rw [e k h1]; exact h3, fun j hj => by show sClean F n g (nI j) = false; rw [e j (by omega)]; exact h4 j hj⟩
theorem and_all {a : Nat} (h : a < 65536) : a &&& (65535 ^^^ 0) = a := by
  rw [Nat.xor_zero]
  have := Nat.and_two_pow_sub_one_eq_mod a 16
  rw [show (2 : Nat) ^ 16 - 1 = 65535 from rfl] at this
  rw [this]; exact Nat.mod_eq_of_lt h
theorem clean_eq {F : Nat → Nat → Int32} {n : Nat} (hw : WF F n) : allB (fun k => sClean F n k (F 7 k)) n = mOk F n 0 := by
  apply bool_iff
  have hW : mWrongs F n < 65536 := bs_16 hw.n
  constructor
  · intro h
    have h1 : ∀ k, k < n → sMis F k (F 7 k) = false ∧ mFoes F n k = 0 := by
      intro k hk
      obtain ⟨a, b⟩ := (clean_iff hw.n).mp (allB_at h k hk)
      exact ⟨a, by rw [← at_eq hw hk]; exact bs_0.mpr b⟩
    have h2 : mWrongs F n = 0 := bs_0.mpr (fun k hk => by rw [← mis7_eq hw hk]; exact (h1 k hk).1)
    unfold mOk cwK
    rw [h2, if_pos (by rfl)]
    exact allB_all (fun k hk => by simp [cwB, (h1 k hk).2])
  · intro h
    unfold mOk cwK at h
    rw [and_all hW] at h
    by_cases h2 : mWrongs F n = 0
    · rw [if_pos h2] at h
      apply allB_all
      intro k hk
      refine (clean_iff hw.n).mpr ⟨by rw [mis7_eq hw hk]; exact bs_0.mp h2 k hk, ?_⟩
      have h3 := allB_at h k hk
      have h5 : mFoes F n k < 65536 := bs_16 hw.n
      have h4 : mFoes F n k = 0 := by
        by_cases e : mFoes F n k = 0
        · exact e
        · simp only [cwB, Nat.zero_testBit, Bool.false_eq_true, if_false, and_all h5, if_neg e] at h3
      rw [← at_eq hw hk] at h4
      exact bs_0.mp h4
    · rw [if_neg h2] at h; cases h

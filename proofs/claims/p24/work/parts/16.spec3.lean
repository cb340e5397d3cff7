/-! the reference's shapes of what is asked of the plan -/
def z0 (x : Int32) : Bool := if x = 0 then true else false
theorem z0_t {x : Int32} (h : z0 x = true) : x = 0 := by
  by_cases e : x = 0
  · exact e
  · simp [z0, e] at h
theorem th1_of {n : Nat} {v : Int32} (h : z0 (th1 n v) = true) : mIn v 0 (nI n - 1) = true := by
  cases e : mIn v 0 (nI n - 1) with
  | true => rfl
  | false => simp [th1, e, z0] at h
theorem th2_of {n : Nat} {v w : Int32} (h : z0 (th2 n v w) = true) : mIn v 0 (nI n - 1) = true ∧ mIn w 0 (nI n - 1) = true ∧ ¬ v = w := by
  cases e : mIn v 0 (nI n - 1) with
  | false => simp [th2, e, z0] at h
  | true => cases e2 : mIn w 0 (nI n - 1) with
    | false => simp [th2, e, e2, z0] at h
    | true =>
      refine ⟨rfl, rfl, fun k => ?_⟩
      subst k; simp [th2, e, z0] at h
theorem z0_f {x : Int32} (h : z0 x = false) : ¬ x = 0 := by
  intro e; subst e; exact absurd h (by decide)
def gFoe (F : Nat → Nat → Int32) (g : Nat) (p : Int32) (h : Nat) : Bool := if mFoe F g h p = true then false else true
def gdK (F : Nat → Nat → Int32) (g : Nat) (p : Int32) (k : Nat) : Bool := if mWrong F g p = true then false else allB (gFoe F g p) k
def mGood (F : Nat → Nat → Int32) (n g : Nat) (p : Int32) : Bool := gdK F g p n
theorem allB_mono {P : Nat → Bool} {k : Nat} (h : allB P k = false) : ∀ n, k ≤ n → allB P n = false
  | 0, hn => by rw [show k = 0 by omega] at h; exact h
  | n + 1, hn => by
    rcases Nat.lt_or_ge n k with q | q
    · rw [show n + 1 = k by omega]; exact h
    · simp [allB, allB_mono h n q]
theorem gdK_mono {F : Nat → Nat → Int32} {g : Nat} {p : Int32} {k n : Nat} (h : gdK F g p k = false) (hk : k ≤ n) : gdK F g p n = false := by
  cases e : mWrong F g p with
  | true => simp [gdK, e]
  | false =>
    simp only [gdK, e, Bool.false_eq_true, if_false] at h ⊢
    exact allB_mono h n hk
theorem gdK_t {F : Nat → Nat → Int32} {g : Nat} {p : Int32} {k : Nat} (h : gdK F g p k = true) (h2 : mFoe F g k p = false) : gdK F g p (k + 1) = true := by
  cases e : mWrong F g p with
  | true => simp [gdK, e] at h
  | false =>
    simp only [gdK, e, Bool.false_eq_true, if_false] at h ⊢
    exact allB_t h (by simp [gFoe, h2])
theorem gdK_f {F : Nat → Nat → Int32} {g : Nat} {p : Int32} {k : Nat} (h2 : mFoe F g k p = true) : gdK F g p (k + 1) = false := by
  cases e : mWrong F g p with
  | true => simp [gdK, e]
  | false =>
    simp only [gdK, e, Bool.false_eq_true, if_false]
    exact allB_f (by simp [gFoe, h2]) _ (Nat.lt_succ_self k)
/-- is the plan clean without the set gone? -/
def cwB (rows : Nat → Nat) (gone : Nat) (w : Nat) : Bool := if gone.testBit w = true then true else if rows w &&& (65535 ^^^ gone) = 0 then true else false
def cwK (rows : Nat → Nat) (gone wr k : Nat) : Bool := if wr &&& (65535 ^^^ gone) = 0 then allB (cwB rows gone) k else false
theorem cwK_mono {rows : Nat → Nat} {gone wr k n : Nat} (h : cwK rows gone wr k = false) (hk : k ≤ n) : cwK rows gone wr n = false := by
  by_cases e : wr &&& (65535 ^^^ gone) = 0
  · simp only [cwK, e, if_true] at h ⊢
    exact allB_mono h n hk
  · simp [cwK, e]
theorem cwK_t {rows : Nat → Nat} {gone wr k : Nat} (h : cwK rows gone wr k = true) (h2 : cwB rows gone k = true) : cwK rows gone wr (k + 1) = true := by
  by_cases e : wr &&& (65535 ^^^ gone) = 0
  · simp only [cwK, e, if_true] at h ⊢
    exact allB_t h h2
  · simp [cwK, e] at h
theorem cwK_f {rows : Nat → Nat} {gone wr k : Nat} (h2 : cwB rows gone k = false) : cwK rows gone wr (k + 1) = false := by
  by_cases e : wr &&& (65535 ^^^ gone) = 0
  · simp only [cwK, e, if_true]
    exact allB_f h2 _ (Nat.lt_succ_self k)
  · simp [cwK, e]
theorem sm_31 : ∀ k, k < 32 → ((nI k &&& 31).toBitVec.smod 32).toNat = k := by decide +kernel
theorem bit_i {a : Nat} (ha : a < 65536) {k : Nat} (hk : k < 32) : ((nI a >>> (nI k &&& 31)) &&& 1 = 1) ↔ a.testBit k = true := by
  rw [pk_shrN (by omega) _ k (sm_31 k hk), show (1 : Int32) = nI 1 from rfl, nI_and, Nat.and_one_is_mod, Nat.testBit_eq_decide_div_mod_eq, decide_eq_true_eq]
  exact nI_eq (by omega) (by decide)
/-- the reference's walk over the sets of goods aboard, by falling number -/
def mL (ok : Nat → Bool) (ab : Nat) : Nat → Nat → Nat → Nat
  | 0, _, found => found
  | f + 1, set, found => if set = 0 then found else mL ok ab f ((set - 1) &&& ab) (if ok set = true then (if pcn found < pcn set then found else set) else found)
def mAb (F : Nat → Nat → Int32) (n : Nat) : Nat := bs (fun k => if F 7 k = -1 then false else true) n
def mOk (F : Nat → Nat → Int32) (n set : Nat) : Bool := cwK (fun g => mFoes F n g) set (mWrongs F n) n
def mLeast (F : Nat → Nat → Int32) (n : Nat) : Nat := if mOk F n 0 = true then 0 else mL (mOk F n) (mAb F n) 65537 (mAb F n) (mAb F n)
/-- how many of the pairs k / 16, k % 16 below a bound are foes -/
def mBr (F : Nat → Nat → Int32) (n : Nat) : Nat → Nat
  | 0 => 0
  | k + 1 => mBr F n k + (if k / 16 < n then (if (mFoes F n (k / 16)).testBit (k % 16) = true then 1 else 0) else 0)
theorem mBr_le (F : Nat → Nat → Int32) (n : Nat) : ∀ k, mBr F n k ≤ k
  | 0 => Nat.le_refl _
  | k + 1 => by
    have := mBr_le F n k
    unfold mBr
    split
    · split <;> omega
    · omega
/-- the lowest place from j on -/
def lowFrom (P : Nat → Bool) (j : Nat) (r : Int32) : Prop := (r = -1 ∧ ∀ k, j ≤ k → k < 48 → P k = false) ∨ ∃ k, j ≤ k ∧ k < 48 ∧ r = nI k ∧ P k = true ∧ ∀ i, j ≤ i → i < k → P i = false
theorem lowFrom_0 {P : Nat → Bool} {r : Int32} (h : lowFrom P 0 r) : isLow P r := by
  rcases h with ⟨h1, h2⟩ | ⟨k, h1, h2, h3, h4, h5⟩
  · exact Or.inl ⟨h1, fun k hk => h2 k (Nat.zero_le _) hk⟩
  · exact Or.inr ⟨k, h2, h3, h4, fun i hi => h5 i (Nat.zero_le _) hi⟩
theorem lowFrom_t {P : Nat → Bool} {j : Nat} (hj : j < 48) (h : P j = true) : lowFrom P j (nI j) := Or.inr ⟨j, Nat.le_refl _, hj, rfl, h, fun i h1 h2 => absurd h2 (by omega)⟩
theorem lowFrom_f {P : Nat → Bool} {j : Nat} {r : Int32} (h : P j = false) (h2 : lowFrom P (j + 1) r) : lowFrom P j r := by
  rcases h2 with ⟨h1, h2⟩ | ⟨k, h1, h2, h3, h4, h5⟩
  · refine Or.inl ⟨h1, fun k h3 h4 => ?_⟩
    rcases Nat.eq_or_lt_of_le h3 with rfl | q
    · exact h
    · exact h2 k q h4
  · refine Or.inr ⟨k, by omega, h2, h3, h4, fun i h6 h7 => ?_⟩
    rcases Nat.eq_or_lt_of_le h6 with rfl | q
    · exact h
    · exact h5 i q h7
theorem gI_dec (i : Nat) : nI i + Int32.ofInt (-1) = gI i := by
  cases i with
  | zero => rfl
  | succ i => exact pk_m1 i
theorem gI_neg {j : Nat} (hj : j < 2 ^ 31) : gI j < 0 ↔ j = 0 := by
  cases j with
  | zero => exact ⟨fun _ => rfl, fun _ => by decide⟩
  | succ j => exact ⟨fun h => absurd h (nI_pos (by omega)), fun h => absurd h (by omega)⟩
theorem rem_2 {y : Nat} (h : y < 2 ^ 31) : nI y - nI y / 2 * 2 = nI (y % 2) := pk_rem (d := 2) h (by decide) (by decide)
theorem div_2 {y : Nat} (h : y < 2 ^ 31) : nI y / 2 = nI (y / 2) := pk_div (d := 2) h (by decide) (by decide)
theorem div_16 {y : Nat} (h : y < 2 ^ 31) : nI y / 16 = nI (y / 16) := pk_div (d := 16) h (by decide) (by decide)
theorem rem_16 {y : Nat} (h : y < 2 ^ 31) : nI y - nI y / 16 * 16 = nI (y % 16) := pk_rem (d := 16) h (by decide) (by decide)
theorem pcF_0 : ∀ f, pcF f 0 = 0
  | 0 => rfl
  | f + 1 => by unfold pcF; rw [show 0 / 2 = 0 from rfl, pcF_0 f]
theorem pl_ne {p : Int32} (h : mIn p 0 47 = true) : ¬ p = -1 := by
  intro k; subst k; exact absurd h (by decide)
theorem nI_ne_m1 {k : Nat} (h : k < 2 ^ 31) : ¬ nI k = -1 := by
  intro e
  have h1 := nI_pos (n := k) h
  rw [e] at h1
  exact h1 (by decide)
theorem mL_lt {ok : Nat → Bool} {ab : Nat} : ∀ (f set found : Nat), set < 65536 → found < 65536 → mL ok ab f set found < 65536
  | 0, _, _, _, h => h
  | f + 1, set, found, hs, h => by
    unfold mL
    split
    · exact h
    · have h1 : (set - 1) &&& ab ≤ set - 1 := Nat.and_le_left
      apply mL_lt f _ _ (by omega)
      split
      · split
        · exact h
        · exact hs
      · exact h
theorem mLeast_lt {F : Nat → Nat → Int32} {n : Nat} (h : n ≤ 16) : mLeast F n < 65536 := by
  unfold mLeast
  split
  · decide
  · exact mL_lt _ _ _ (bs_16 h) (bs_16 h)

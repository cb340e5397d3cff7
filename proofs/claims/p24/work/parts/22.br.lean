/-! the pairs in breach, counted once and counted twice -/
theorem bs_bit {P : Nat → Bool} (j : Nat) : ∀ n, (bs P n).testBit j = (decide (j < n) && P j)
  | 0 => by show Nat.testBit 0 j = _; rw [Nat.zero_testBit]; simp
  | n + 1 => by
    have ih := bs_bit (P := P) j n
    unfold bs
    cases e : P n with
    | false =>
      simp only [Bool.false_eq_true, if_false, Nat.add_zero]
      rw [ih]
      by_cases h : j = n
      · subst h; simp [e]
      · have : (j < n + 1) = (j < n) := by apply propext; omega
        simp [this]
    | true =>
      simp only [if_true]
      rw [← or_hi (bs_lt P n), Nat.testBit_or, ih, Nat.testBit_two_pow]
      by_cases h : n = j
      · subst h; simp [e]
      · have : (j < n + 1) = (j < n) := by apply propext; omega
        simp [this, h]
def sm (f : Nat → Nat) : Nat → Nat
  | 0 => 0
  | m + 1 => sm f m + f m
theorem sm_cong {f g : Nat → Nat} : ∀ {m : Nat}, (∀ k, k < m → f k = g k) → sm f m = sm g m
  | 0, _ => rfl
  | m + 1, h => by unfold sm; rw [sm_cong (fun k hk => h k (by omega)), h m (by omega)]
theorem sm_add (f g : Nat → Nat) : ∀ m, sm (fun k => f k + g k) m = sm f m + sm g m
  | 0 => rfl
  | m + 1 => by unfold sm; rw [sm_add f g m]; omega
theorem sm_zero {f : Nat → Nat} : ∀ {m : Nat}, (∀ k, k < m → f k = 0) → sm f m = 0
  | 0, _ => rfl
  | m + 1, h => by unfold sm; rw [sm_zero (fun k hk => h k (by omega)), h m (by omega)]
theorem sm_tail {f : Nat → Nat} {n : Nat} (h : ∀ k, n ≤ k → f k = 0) : ∀ N, n ≤ N → sm f N = sm f n
  | 0, hn => by rw [show n = 0 by omega]
  | N + 1, hn => by
    rcases Nat.lt_or_ge N n with q | q
    · rw [show N + 1 = n by omega]
    · show sm f N + f N = sm f n
      rw [sm_tail h N q, h N q, Nat.add_zero]
theorem sm_two {b : Nat → Nat → Nat} {N : Nat} (hs : ∀ i j, i < N → j < N → b i j = b j i) (h0 : ∀ i, i < N → b i i = 0) : ∀ m, m ≤ N → sm (fun a => sm (b a) m) m = 2 * sm (fun k => sm (fun j => if k < j then b k j else 0) m) m
  | 0, _ => rfl
  | m + 1, hm => by
    have ih := sm_two hs h0 m (by omega)
    have e1 : sm (fun a => sm (b a) (m + 1)) (m + 1) = sm (fun a => sm (b a) m) m + sm (fun a => b a m) m + (sm (b m) m + b m m) := by
      show sm (fun a => sm (b a) m + b a m) m + (sm (b m) m + b m m) = _
      rw [sm_add]
    have e2 : sm (fun k => sm (fun j => if k < j then b k j else 0) (m + 1)) (m + 1) = sm (fun k => sm (fun j => if k < j then b k j else 0) m) m + sm (fun k => b k m) m := by
      show sm (fun k => sm (fun j => if k < j then b k j else 0) m + (if k < m then b k m else 0)) m + sm (fun j => if m < j then b m j else 0) (m + 1) = _
      rw [sm_add, sm_zero (f := fun j => if m < j then b m j else 0) (fun k hk => by rw [if_neg (by omega)]), Nat.add_zero]
      rw [sm_cong (f := fun k => if k < m then b k m else 0) (g := fun k => b k m) (fun k hk => by rw [if_pos hk])]
    have e3 : sm (fun a => b a m) m = sm (b m) m := sm_cong (fun k hk => hs k m (by omega) (by omega))
    rw [e1, e2, ih, h0 m (by omega), e3]
    omega
def qB (F : Nat → Nat → Int32) (i j : Nat) : Bool := if F 7 i = -1 then false else mFoe F i j (F 7 i)
def bB (F : Nat → Nat → Int32) (n i j : Nat) : Nat := if i < n then (if (mFoes F n i).testBit j = true then 1 else 0) else 0
theorem bB_eq {F : Nat → Nat → Int32} {n i j : Nat} (hi : i < n) (hj : j < n) : bB F n i j = if qB F i j = true then 1 else 0 := by
  unfold bB mFoes
  rw [if_pos hi, bs_bit]
  simp only [hj, decide_true, Bool.true_and]
  rfl
theorem bB_out {F : Nat → Nat → Int32} {n i j : Nat} (h : n ≤ i ∨ n ≤ j) : bB F n i j = 0 := by
  unfold bB mFoes
  by_cases hi : i < n
  · have hj : ¬ j < n := by omega
    rw [if_pos hi, bs_bit]
    simp [hj]
  · rw [if_neg hi]
theorem qB_self {F : Nat → Nat → Int32} {i : Nat} : qB F i i = false := by
  unfold qB mFoe
  by_cases h : F 7 i = -1 <;> simp [h]
theorem qB_br {F : Nat → Nat → Int32} {n i j : Nat} (hw : WF F n) (hi : i < n) (hj : j < n) (h : ¬ i = j) : qB F i j = sBreach F i (F 7 i) j := (breach_eq hw hi hj h).symm
theorem qB_sym {F : Nat → Nat → Int32} {n i j : Nat} (hw : WF F n) (hs : SY F) (hi : i < n) (hj : j < n) : qB F i j = qB F j i := by
  by_cases h : i = j
  · rw [h]
  · rw [qB_br hw hi hj h, qB_br hw hj hi (fun k => h k.symm), breach_sym hw hs hi hj]
theorem mBr_row {F : Nat → Nat → Int32} {n i : Nat} : ∀ j, j ≤ 16 → mBr F n (16 * i + j) = mBr F n (16 * i) + sm (bB F n i) j
  | 0, _ => rfl
  | j + 1, h => by
    have ih := mBr_row (F := F) (n := n) (i := i) j (by omega)
    show mBr F n (16 * i + j) + (if (16 * i + j) / 16 < n then (if (mFoes F n ((16 * i + j) / 16)).testBit ((16 * i + j) % 16) = true then 1 else 0) else 0) = mBr F n (16 * i) + (sm (bB F n i) j + bB F n i j)
    rw [ih, show (16 * i + j) / 16 = i by omega, show (16 * i + j) % 16 = j by omega]
    exact Nat.add_assoc _ _ _
theorem mBr_all {F : Nat → Nat → Int32} {n : Nat} : ∀ i, mBr F n (16 * i) = sm (fun a => sm (bB F n a) 16) i
  | 0 => rfl
  | i + 1 => by
    have h := mBr_row (F := F) (n := n) (i := i) 16 (Nat.le_refl _)
    rw [show 16 * (i + 1) = 16 * i + 16 by omega, h, mBr_all i]
    rfl
theorem cIn_sm {P : Nat → Bool} {k : Nat} : ∀ m, cIn P (k + 1) m = sm (fun j => if k < j then (if P j = true then 1 else 0) else 0) m
  | 0 => rfl
  | m + 1 => by
    unfold cIn sm
    rw [cIn_sm m]
    by_cases h : k < m
    · have : k + 1 ≤ m := h
      simp [h, this]
    · have : ¬ k + 1 ≤ m := h
      simp [h, this]
theorem cOu_sm {F : Nat → Nat → Int32} {n : Nat} (hw : WF F n) : ∀ m, m ≤ n → cO F n m = sm (fun k => sm (fun j => if k < j then bB F n k j else 0) n) m
  | 0, _ => rfl
  | m + 1, h => by
    show cO F n m + cIn (fun j => sBreach F m (F 7 m) j) (m + 1) n = sm (fun k => sm (fun j => if k < j then bB F n k j else 0) n) m + sm (fun j => if m < j then bB F n m j else 0) n
    rw [cOu_sm hw m (by omega), cIn_sm]
    congr 1
    apply sm_cong
    intro j hj
    by_cases q : m < j
    · rw [if_pos q, if_pos q, bB_eq (by omega) hj, qB_br hw (by omega) hj (by omega)]
    · rw [if_neg q, if_neg q]
theorem pairs_eq {F : Nat → Nat → Int32} {n : Nat} (hw : WF F n) (hs : SY F) : cO F n n = mBr F n 256 / 2 := by
  have hn := hw.n
  have h1 : mBr F n 256 = sm (fun a => sm (bB F n a) n) n := by
    rw [show 256 = 16 * 16 from rfl, mBr_all 16]
    rw [sm_tail (n := n) (fun k hk => sm_zero (fun c _ => bB_out (Or.inl hk))) 16 hn]
    exact sm_cong (fun k _ => sm_tail (fun c hc => bB_out (Or.inr hc)) 16 hn)
  have h2 := sm_two (b := bB F n) (N := n) (fun i j hi hj => by rw [bB_eq hi hj, bB_eq hj hi, qB_sym hw hs hi hj]) (fun i hi => by rw [bB_eq hi hi, qB_self]; rfl) n (Nat.le_refl _)
  rw [h1, h2, cOu_sm hw n (Nat.le_refl _)]
  omega

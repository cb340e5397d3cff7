/-! the public calls: what is thrown (th..), what is answered -/
def gi (v : Int32) : Nat := v.toNatClampNeg
theorem gi_nI {g : Nat} (h : g < 2 ^ 31) : gi (nI g) = g := nI_clamp h
def th1 (n : Nat) (v : Int32) : Int32 := if mIn v 0 (nI n - 1) = true then 0 else 1
def th2 (n : Nat) (v w : Int32) : Int32 := if mIn v 0 (nI n - 1) = true then (if mIn w 0 (nI n - 1) = true then (if v = w then 2 else 0) else 1) else 1
def thD (a b : Int32) : Int32 := if mIn a 0 47 = true then (if mIn b 0 47 = true then 0 else 1) else 1
def thCP (n : Nat) (v p : Int32) : Int32 := if mIn v 0 (nI n - 1) = true then (if mIn p 0 47 = true then 0 else 2) else 1
theorem th1_0 {n : Nat} {v : Int32} (h : mIn v 0 (nI n - 1) = true) : th1 n v = 0 := by simp [th1, h]
theorem th1_1 {n : Nat} {v : Int32} (h : mIn v 0 (nI n - 1) = false) : th1 n v = 1 := by simp [th1, h]
theorem th2_0 {n : Nat} {v w : Int32} (h : mIn v 0 (nI n - 1) = true) (h2 : mIn w 0 (nI n - 1) = true) (h3 : ¬ v = w) : th2 n v w = 0 := by simp [th2, h, h2, h3]
theorem th2_1 {n : Nat} {v w : Int32} (h : mIn v 0 (nI n - 1) = false ∨ mIn w 0 (nI n - 1) = false) : th2 n v w = 1 := by
  rcases h with h | h
  · simp [th2, h]
  · cases e : mIn v 0 (nI n - 1) <;> simp [th2, h, e]
theorem th2_2 {n : Nat} {v w : Int32} (h : mIn v 0 (nI n - 1) = true) (h2 : mIn w 0 (nI n - 1) = true) (h3 : v = w) : th2 n v w = 2 := by
  subst h3; simp [th2, h]
theorem thD_0 {a b : Int32} (h : mIn a 0 47 = true) (h2 : mIn b 0 47 = true) : thD a b = 0 := by simp [thD, h, h2]
theorem thD_1 {a b : Int32} (h : mIn a 0 47 = false ∨ mIn b 0 47 = false) : thD a b = 1 := by
  rcases h with h | h
  · simp [thD, h]
  · cases e : mIn a 0 47 <;> simp [thD, h, e]
theorem thCP_0 {n : Nat} {v p : Int32} (h : mIn v 0 (nI n - 1) = true) (h2 : mIn p 0 47 = true) : thCP n v p = 0 := by simp [thCP, h, h2]
theorem thCP_1 {n : Nat} {v p : Int32} (h : mIn v 0 (nI n - 1) = false) : thCP n v p = 1 := by simp [thCP, h]
theorem thCP_2 {n : Nat} {v p : Int32} (h : mIn v 0 (nI n - 1) = true) (h2 : mIn p 0 47 = false) : thCP n v p = 2 := by simp [thCP, h, h2]
theorem pl_ok {p : Int32} (h : mIn p 0 47 = true) : ∃ k, k < 48 ∧ p = nI k := by
  have h1 : ¬ p < 0 := by intro k; simp [mIn, k] at h
  have h2 : ¬ 47 < p := by intro k; simp [mIn, h1, k] at h
  obtain ⟨g, hg, rfl⟩ := nI_of h1
  refine ⟨g, ?_, rfl⟩
  rcases Nat.lt_or_ge g 48 with q | q
  · exact q
  · exact absurd (show nI 47 < nI g from nI_lt (by omega) hg) h2
theorem pl_okP {p : Int32} (h : mIn p 0 47 = true) : okP p := Or.inr (pl_ok h)
/-- the lowest place with a property, or NONE -/
def isLow (P : Nat → Bool) (r : Int32) : Prop := (r = -1 ∧ ∀ k, k < 48 → P k = false) ∨ ∃ k, k < 48 ∧ r = nI k ∧ P k = true ∧ ∀ j, j < k → P j = false
theorem isLow_eq {P : Nat → Bool} {r r' : Int32} (h : isLow P r) (h' : isLow P r') : r = r' := by
  rcases h with ⟨rfl, h⟩ | ⟨k, hk, rfl, h1, h2⟩ <;> rcases h' with ⟨rfl, h'⟩ | ⟨k', hk', rfl, h1', h2'⟩
  · rfl
  · rw [h k' hk'] at h1'; cases h1'
  · rw [h' k hk] at h1; cases h1
  · rcases Nat.lt_trichotomy k k' with q | q | q
    · rw [h2' k q] at h1; cases h1
    · rw [q]
    · rw [h2 k' q] at h1'; cases h1'
/-- all of the first k -/
def allB (P : Nat → Bool) : Nat → Bool
  | 0 => true
  | k + 1 => if allB P k = true then P k else false
theorem allB_t {P : Nat → Bool} {k : Nat} (h : allB P k = true) (h2 : P k = true) : allB P (k + 1) = true := by simp [allB, h, h2]
theorem allB_f {P : Nat → Bool} {k : Nat} (h2 : P k = false) : ∀ n, k < n → allB P n = false
  | 0, h => absurd h (Nat.not_lt_zero _)
  | n + 1, h => by
    rcases Nat.lt_or_ge k n with q | q
    · simp [allB, allB_f h2 n q]
    · have e : k = n := by omega
      subst e
      simp [allB, h2]
/-- how many j from lo on, below a bound, have a property -/
def cIn (P : Nat → Bool) (lo : Nat) : Nat → Nat
  | 0 => 0
  | j + 1 => cIn P lo j + (if lo ≤ j then (if P j = true then 1 else 0) else 0)
theorem cIn_z (P : Nat → Bool) (lo : Nat) : ∀ j, j ≤ lo → cIn P lo j = 0
  | 0, _ => rfl
  | j + 1, h => by
    have h1 : ¬ lo ≤ j := by omega
    simp [cIn, cIn_z P lo j (by omega), h1]
theorem cIn_t {P : Nat → Bool} {lo j : Nat} (h : lo ≤ j) (h2 : P j = true) : cIn P lo (j + 1) = cIn P lo j + 1 := by simp [cIn, h, h2]
theorem cIn_f {P : Nat → Bool} {lo j : Nat} (h2 : P j = false) : cIn P lo (j + 1) = cIn P lo j := by
  by_cases h : lo ≤ j <;> simp [cIn, h, h2]
/-- the pairs in breach whose first is below k -/
def cO (F : Nat → Nat → Int32) (n : Nat) : Nat → Nat
  | 0 => 0
  | k + 1 => cO F n k + cIn (fun j => sBreach F k (F 7 k) j) (k + 1) n
/-! the calls that write -/
def thSD (a b d : Int32) : Int32 := if mIn a 1 9 = true then (if mIn b 1 9 = true then (if mIn d 0 4 = true then 0 else 1) else 1) else 1
def fSD (F : Nat → Nat → Int32) (a b d : Int32) : Nat → Nat → Int32 := uF (uF F 0 (upd (F 0) (a * 10 + b).toNatClampNeg d)) 0 (upd ((uF F 0 (upd (F 0) (a * 10 + b).toNatClampNeg d)) 0) (b * 10 + a).toNatClampNeg d)
def thSQ (c l e : Int32) : Int32 := if mIn c 1 9 = true then (if mIn l 0 10000 = true then (if mIn e 0 l = true then 0 else 1) else 1) else 1
def fSQ (F : Nat → Nat → Int32) (c l e : Int32) : Nat → Nat → Int32 := uF (uF F 1 (upd (F 1) c.toNatClampNeg l)) 2 (upd (F 2) c.toNatClampNeg e)
def thBar (c d : Int32) : Int32 := if mIn c 1 9 = true then (if mIn d 0 1 = true then 0 else 1) else 1
def fBar (F : Nat → Nat → Int32) (c d : Int32) (b : Bool) : Nat → Nat → Int32 := uF F 3 (upd (F 3) (c * 2 + d).toNatClampNeg (bi b))
def subOk (c s : Int32) : Bool := if s = -1 then true else if mIn s 1 9 = true then (if s = c then false else true) else false
def thAdd (n : Nat) (c s x : Int32) : Int32 := if mIn c 1 9 = true then (if subOk c s = true then (if mIn x 1 10000 = true then (if n = 16 then 2 else 0) else 1) else 1) else 1
def fAdd (F : Nat → Nat → Int32) (n : Nat) (c s x : Int32) : Nat → Nat → Int32 := uF (uF (uF (uF F 4 (upd (F 4) n c)) 5 (upd (F 5) n s)) 6 (upd (F 6) n x)) 7 (upd (F 7) n (-1))
def thQ (n : Nat) (v x : Int32) : Int32 := if mIn v 0 (nI n - 1) = true then (if mIn x 1 10000 = true then 0 else 2) else 1
def fQ (F : Nat → Nat → Int32) (g : Nat) (x : Int32) : Nat → Nat → Int32 := uF F 6 (upd (F 6) g x)
def thP (n : Nat) (v p : Int32) : Int32 := if mIn v 0 (nI n - 1) = true then (if p = -1 then 0 else if mIn p 0 47 = true then 0 else 2) else 1
def fP (F : Nat → Nat → Int32) (g : Nat) (p : Int32) : Nat → Nat → Int32 := uF F 7 (upd (F 7) g p)
theorem cl_ok {c : Int32} (h : mIn c 1 9 = true) : ∃ k, 1 ≤ k ∧ k ≤ 9 ∧ c = nI k := by
  have h1 : ¬ c < 1 := by intro k; simp [mIn, k] at h
  have h2 : ¬ 9 < c := by intro k; simp [mIn, h1, k] at h
  have h0 : ¬ c < 0 := fun k => h1 (Int32.lt_of_lt_of_le k (by decide))
  obtain ⟨g, hg, rfl⟩ := nI_of h0
  refine ⟨g, ?_, ?_, rfl⟩
  · rcases Nat.eq_zero_or_pos g with q | q
    · subst q; exact absurd (by decide) h1
    · exact q
  · rcases Nat.lt_or_ge 9 g with q | q
    · exact absurd (show nI 9 < nI g from nI_lt q hg) h2
    · exact q
theorem cl_okC {c : Int32} (h : mIn c 1 9 = true) : okC c := Or.inr (cl_ok h)
theorem cl_ne {c : Int32} (h : mIn c 1 9 = true) : ¬ c = -1 := by
  intro k; subst k; exact absurd h (by decide)
theorem dk_01 {d : Int32} (h : mIn d 0 1 = true) : d = 0 ∨ d = 1 := by
  have h1 : ¬ d < 0 := by intro k; simp [mIn, k] at h
  have h2 : ¬ 1 < d := by intro k; simp [mIn, h1, k] at h
  obtain ⟨g, hg, rfl⟩ := nI_of h1
  rcases Nat.lt_or_ge 1 g with q | q
  · exact absurd (show nI 1 < nI g from nI_lt q hg) h2
  · rcases (show g = 0 ∨ g = 1 by omega) with rfl | rfl
    · exact Or.inl rfl
    · exact Or.inr rfl
theorem thSD_0 {a b d : Int32} (h : mIn a 1 9 = true) (h2 : mIn b 1 9 = true) (h3 : mIn d 0 4 = true) : thSD a b d = 0 := by simp [thSD, h, h2, h3]
theorem thSD_1 {a b d : Int32} (h : mIn a 1 9 = false ∨ mIn b 1 9 = false ∨ mIn d 0 4 = false) : thSD a b d = 1 := by
  cases e : mIn a 1 9 <;> cases e2 : mIn b 1 9 <;> cases e3 : mIn d 0 4 <;> simp [thSD, e, e2, e3] at h ⊢
theorem thSQ_0 {c l e : Int32} (h : mIn c 1 9 = true) (h2 : mIn l 0 10000 = true) (h3 : mIn e 0 l = true) : thSQ c l e = 0 := by simp [thSQ, h, h2, h3]
theorem thSQ_1 {c l e : Int32} (h : mIn c 1 9 = false ∨ mIn l 0 10000 = false ∨ mIn e 0 l = false) : thSQ c l e = 1 := by
  cases e1 : mIn c 1 9 <;> cases e2 : mIn l 0 10000 <;> cases e3 : mIn e 0 l <;> simp [thSQ, e1, e2, e3] at h ⊢
theorem thBar_0 {c d : Int32} (h : mIn c 1 9 = true) (h2 : mIn d 0 1 = true) : thBar c d = 0 := by simp [thBar, h, h2]
theorem thBar_1 {c d : Int32} (h : mIn c 1 9 = false ∨ mIn d 0 1 = false) : thBar c d = 1 := by
  cases e1 : mIn c 1 9 <;> cases e2 : mIn d 0 1 <;> simp [thBar, e1, e2] at h ⊢
theorem subOk_t {c s : Int32} (h : s = -1 ∨ (mIn s 1 9 = true ∧ ¬ s = c)) : subOk c s = true := by
  rcases h with rfl | ⟨h, h2⟩
  · rfl
  · simp [subOk, h, h2]
theorem subOk_f {c s : Int32} (h : ¬ s = -1) (h2 : mIn s 1 9 = false ∨ s = c) : subOk c s = false := by
  rcases h2 with h2 | rfl
  · simp [subOk, h, h2]
  · simp [subOk, h]
theorem thAdd_0 {n : Nat} {c s x : Int32} (h : mIn c 1 9 = true) (h2 : subOk c s = true) (h3 : mIn x 1 10000 = true) (h4 : n < 16) : thAdd n c s x = 0 := by
  have : ¬ n = 16 := by omega
  simp [thAdd, h, h2, h3, this]
theorem thAdd_1 {n : Nat} {c s x : Int32} (h : mIn c 1 9 = false ∨ subOk c s = false ∨ mIn x 1 10000 = false) : thAdd n c s x = 1 := by
  cases e1 : mIn c 1 9 <;> cases e2 : subOk c s <;> cases e3 : mIn x 1 10000 <;> simp [thAdd, e1, e2, e3] at h ⊢
theorem thAdd_2 {n : Nat} {c s x : Int32} (h : mIn c 1 9 = true) (h2 : subOk c s = true) (h3 : mIn x 1 10000 = true) (hn : n ≤ 16) (h4 : ¬ nI n < 16) : thAdd n c s x = 2 := by
  have : n = 16 := by
    rcases Nat.lt_or_ge n 16 with q | q
    · exact absurd (show nI n < nI 16 from nI_lt q (by decide)) h4
    · omega
  simp [thAdd, h, h2, h3, this]
theorem thQ_0 {n : Nat} {v x : Int32} (h : mIn v 0 (nI n - 1) = true) (h2 : mIn x 1 10000 = true) : thQ n v x = 0 := by simp [thQ, h, h2]
theorem thQ_1 {n : Nat} {v x : Int32} (h : mIn v 0 (nI n - 1) = false) : thQ n v x = 1 := by simp [thQ, h]
theorem thQ_2 {n : Nat} {v x : Int32} (h : mIn v 0 (nI n - 1) = true) (h2 : mIn x 1 10000 = false) : thQ n v x = 2 := by simp [thQ, h, h2]
theorem thP_0 {n : Nat} {v p : Int32} (h : mIn v 0 (nI n - 1) = true) (h2 : p = -1 ∨ mIn p 0 47 = true) : thP n v p = 0 := by
  rcases h2 with h2 | h2 <;> simp [thP, h, h2]
theorem thP_1 {n : Nat} {v p : Int32} (h : mIn v 0 (nI n - 1) = false) : thP n v p = 1 := by simp [thP, h]
theorem thP_2 {n : Nat} {v p : Int32} (h : mIn v 0 (nI n - 1) = true) (h2 : ¬ p = -1) (h3 : mIn p 0 47 = false) : thP n v p = 2 := by simp [thP, h, h2, h3]
theorem b3_nar {F : Nat → Nat → Int32} {n : Nat} {c d : Int32} (hw : WF F n) (h : mIn c 1 9 = true) (h2 : mIn d 0 1 = true) : narrow .boolean (.int (F 3 (c * 2 + d).toNatClampNeg)) = .int (F 3 (c * 2 + d).toNatClampNeg) := by
  obtain ⟨i, hi, e, -⟩ := bar_ix (cl_okC h) (cl_ne h) (dk_01 h2)
  rw [e, nI_clamp (by omega)]
  rcases hw.b3 hi with k | k <;> rw [k] <;> rfl

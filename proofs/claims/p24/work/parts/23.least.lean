/-! those who have to leave: the class's search and the reference's walk find the same set -/
def Sub (a b : Nat) : Prop := ∀ j, a.testBit j = true → b.testBit j = true
theorem Sub.rf (a : Nat) : Sub a a := fun _ h => h
theorem Sub.tr {a b c : Nat} (h : Sub a b) (h2 : Sub b c) : Sub a c := fun j k => h2 j (h j k)
theorem tb_f {b : Bool} (h : ¬ b = true) : b = false := by cases b <;> simp at h ⊢
theorem sub_lt {a b m : Nat} (h : Sub a b) (hb : b < 2 ^ m) : a < 2 ^ m := by
  apply Nat.lt_pow_two_of_testBit
  intro i hi
  apply tb_f
  intro e
  have h1 := h i e
  rw [Nat.testBit_lt_two_pow (Nat.lt_of_lt_of_le hb (Nat.pow_le_pow_right (n := 2) (by decide) hi))] at h1
  cases h1
theorem sub_half {a b : Nat} (h : Sub a b) : Sub (a / 2) (b / 2) := by
  intro j hj
  rw [← Nat.testBit_add_one] at hj ⊢
  exact h (j + 1) hj
theorem sub_mod {a b : Nat} (h : Sub a b) : a % 2 ≤ b % 2 := by
  have h0 := h 0
  rw [Nat.testBit_zero, Nat.testBit_zero, decide_eq_true_eq, decide_eq_true_eq] at h0
  omega
theorem pcF_mono : ∀ (f : Nat) {a b : Nat}, Sub a b → pcF f a ≤ pcF f b
  | 0, _, _, _ => Nat.le_refl _
  | f + 1, a, b, h => by
    have h1 := pcF_mono f (sub_half h)
    have h2 := sub_mod h
    unfold pcF
    omega
theorem pcF_inj : ∀ (f : Nat) {a b : Nat}, b < 2 ^ f → Sub a b → pcF f b ≤ pcF f a → a = b
  | 0, a, b, hb, h, _ => by
    have hb0 : b = 0 := by simpa using hb
    have ha : a < 2 ^ 0 := sub_lt h hb
    have ha0 : a = 0 := by simpa using ha
    rw [ha0, hb0]
  | f + 1, a, b, hb, h, hp => by
    have h1 := pcF_mono f (sub_half h)
    have h2 := sub_mod h
    have e : pcF (f + 1) a = a % 2 + pcF f (a / 2) := rfl
    have e2 : pcF (f + 1) b = b % 2 + pcF f (b / 2) := rfl
    rw [e, e2] at hp
    have hb2 : b / 2 < 2 ^ f := by rw [Nat.pow_succ] at hb; omega
    have h3 := pcF_inj f hb2 (sub_half h) (by omega)
    omega
theorem pc_mono {a b : Nat} (h : Sub a b) : pcn a ≤ pcn b := pcF_mono 16 h
theorem pc_inj {a b : Nat} (hb : b < 65536) (h : Sub a b) (hp : pcn b ≤ pcn a) : a = b := pcF_inj 16 hb h hp
theorem bit_0 {a k : Nat} : a &&& 2 ^ k = 0 ↔ a.testBit k = false := by
  constructor
  · intro h
    apply tb_f
    intro e
    have h1 : (a &&& 2 ^ k).testBit k = true := by rw [Nat.testBit_and, Nat.testBit_two_pow, e]; simp
    rw [h, Nat.zero_testBit] at h1
    cases h1
  · intro h
    apply Nat.eq_of_testBit_eq
    intro i
    rw [Nat.testBit_and, Nat.testBit_two_pow, Nat.zero_testBit]
    by_cases e : k = i
    · subst e; simp [h]
    · simp [e]
theorem t65535 (i : Nat) : (65535 : Nat).testBit i = decide (i < 16) := Nat.testBit_two_pow_sub_one 16 i
theorem sub_0 {a b : Nat} (ha : a < 65536) : a &&& (65535 ^^^ b) = 0 ↔ Sub a b := by
  constructor
  · intro h j hj
    have hj16 : j < 16 := by
      rcases Nat.lt_or_ge j 16 with q | q
      · exact q
      · rw [Nat.testBit_lt_two_pow (Nat.lt_of_lt_of_le ha (Nat.pow_le_pow_right (n := 2) (by decide) q))] at hj; cases hj
    have h1 : (a &&& (65535 ^^^ b)).testBit j = false := by rw [h, Nat.zero_testBit]
    rw [Nat.testBit_and, Nat.testBit_xor, t65535, hj] at h1
    simpa [hj16] using h1
  · intro h
    apply Nat.eq_of_testBit_eq
    intro i
    rw [Nat.testBit_and, Nat.testBit_xor, t65535, Nat.zero_testBit]
    cases e : a.testBit i with
    | false => rfl
    | true =>
      have hi16 : i < 16 := by
        rcases Nat.lt_or_ge i 16 with q | q
        · exact q
        · rw [Nat.testBit_lt_two_pow (Nat.lt_of_lt_of_le ha (Nat.pow_le_pow_right (n := 2) (by decide) q))] at e; cases e
      rw [h i e]; simp [hi16]
theorem lt_tb : ∀ (k : Nat) {x y : Nat}, x.testBit k = false → y.testBit k = true → (∀ j, k + 1 ≤ j → x.testBit j = y.testBit j) → x < y
  | 0, x, y, hx, hy, hf => by
    have e : x / 2 = y / 2 := Nat.eq_of_testBit_eq (fun i => by rw [← Nat.testBit_add_one, ← Nat.testBit_add_one]; exact hf (i + 1) (by omega))
    rw [Nat.testBit_zero, decide_eq_false_iff_not] at hx
    rw [Nat.testBit_zero, decide_eq_true_eq] at hy
    omega
  | k + 1, x, y, hx, hy, hf => by
    rw [Nat.testBit_add_one] at hx hy
    have h := lt_tb k hx hy (fun j hj => by rw [← Nat.testBit_add_one, ← Nat.testBit_add_one]; exact hf (j + 1) (by omega))
    omega
/-- what the plan is: who is a foe of whom, who is wrong, who is aboard -/
def Plan (rows : Nat → Nat) (n wr ab : Nat) : Prop := n ≤ 16 ∧ (∀ i j, i < n → j < n → (rows i).testBit j = (rows j).testBit i) ∧ (∀ i, i < n → (rows i).testBit i = false) ∧ (∀ i, i < n → Sub (rows i) ab) ∧ Sub wr ab ∧ (∀ j, ab.testBit j = true → j < n)
def Cl (rows : Nat → Nat) (n wr S : Nat) : Prop := Sub wr S ∧ ∀ g, g < n → S.testBit g = false → Sub (rows g) S
def Best (rows : Nat → Nat) (n wr ab r : Nat) : Prop := Sub r ab ∧ Cl rows n wr r ∧ ∀ S, Sub S ab → Cl rows n wr S → pcn r < pcn S ∨ (pcn r = pcn S ∧ r ≤ S)
theorem best_one {rows : Nat → Nat} {n wr ab r r' : Nat} (h : Best rows n wr ab r) (h' : Best rows n wr ab r') : r = r' := by
  have h1 := h.2.2 r' h'.1 h'.2.1
  have h2 := h'.2.2 r h.1 h.2.1
  omega
def Cand (rows : Nat → Nat) (n wr k lv S : Nat) : Prop := Cl rows n wr S ∧ Sub lv S ∧ ∀ i, k ≤ i → S.testBit i = lv.testBit i
def Inv (rows : Nat → Nat) (n wr ab k lv : Nat) : Prop := Sub wr lv ∧ Sub lv ab ∧ ∀ h, k ≤ h → h < n → lv.testBit h = false → Sub (rows h) lv
theorem sub_or1 (a b : Nat) : Sub a (a ||| b) := fun j h => by rw [Nat.testBit_or, h]; rfl
theorem sub_or2 (a b : Nat) : Sub b (a ||| b) := fun j h => by rw [Nat.testBit_or, h, Bool.or_true]
theorem sub_or {a b c : Nat} (h : Sub a c) (h2 : Sub b c) : Sub (a ||| b) c := by
  intro j hj
  rw [Nat.testBit_or, Bool.or_eq_true] at hj
  exact hj.elim (h j) (h2 j)
theorem sub_pow {k c : Nat} (h : c.testBit k = true) : Sub (2 ^ k) c := by
  intro j hj
  rw [Nat.testBit_two_pow, decide_eq_true_eq] at hj
  rw [← hj]; exact h
theorem srch_best {rows : Nat → Nat} {n wr ab : Nat} (hp : Plan rows n wr ab) : ∀ (k lv best : Nat), k ≤ n → Inv rows n wr ab k lv →
    (srch rows k lv best = best ∨ (Cand rows n wr k lv (srch rows k lv best) ∧ Sub (srch rows k lv best) ab ∧ pcn (srch rows k lv best) < pcn best)) ∧
    ∀ S, Cand rows n wr k lv S → Sub S ab → pcn (srch rows k lv best) < pcn S ∨ (pcn (srch rows k lv best) = pcn S ∧ (srch rows k lv best = best ∨ srch rows k lv best ≤ S)) := by
  obtain ⟨hn, hsym, hself, hsub, hwr, hab⟩ := hp
  have hab16 : ab < 65536 := by
    apply Nat.lt_pow_two_of_testBit (n := 16)
    intro i hi
    apply tb_f
    intro e
    have := hab i e
    omega
  intro k
  induction k with
  | zero =>
    intro lv best hk hI
    obtain ⟨i1, i2, i3⟩ := hI
    have hS : ∀ S, Cand rows n wr 0 lv S → S = lv := fun S h => Nat.eq_of_testBit_eq (fun i => h.2.2 i (Nat.zero_le _))
    have e : srch rows 0 lv best = if pcn lv < pcn best then lv else best := rfl
    rw [e]
    by_cases q : pcn lv < pcn best
    · rw [if_pos q]
      refine ⟨Or.inr ⟨⟨⟨i1, fun g hg hg2 => i3 g (Nat.zero_le _) hg hg2⟩, Sub.rf _, fun _ _ => rfl⟩, i2, q⟩, fun S h _ => ?_⟩
      rw [hS S h]; exact Or.inr ⟨rfl, Or.inr (Nat.le_refl _)⟩
    · rw [if_neg q]
      refine ⟨Or.inl rfl, fun S h _ => ?_⟩
      rw [hS S h]
      rcases Nat.lt_or_ge (pcn best) (pcn lv) with q2 | q2
      · exact Or.inl q2
      · exact Or.inr ⟨by omega, Or.inl rfl⟩
  | succ k ih =>
    intro lv best hk hI
    obtain ⟨i1, i2, i3⟩ := hI
    have hkn : k < n := hk
    have e : srch rows (k + 1) lv best = if pcn lv < pcn best then (if lv &&& 2 ^ k = 0 then (if rows k &&& (65535 ^^^ lv) = 0 then srch rows k (lv ||| rows k) best else srch rows k (lv ||| 2 ^ k) (srch rows k (lv ||| rows k) best)) else srch rows k lv best) else best := rfl
    rw [e]
    by_cases q : ¬ pcn lv < pcn best
    · rw [if_neg q]
      refine ⟨Or.inl rfl, fun S h _ => ?_⟩
      have h1 := pc_mono h.2.1
      rcases Nat.lt_or_ge (pcn best) (pcn S) with q2 | q2
      · exact Or.inl q2
      · exact Or.inr ⟨by omega, Or.inl rfl⟩
    have q := Decidable.not_not.mp q
    rw [if_pos q]
    by_cases hb : ¬ lv &&& 2 ^ k = 0
    · rw [if_neg hb]
      have hbt : lv.testBit k = true := by
        cases e2 : lv.testBit k with
        | true => rfl
        | false => exact absurd (bit_0.mpr e2) hb
      obtain ⟨a, b⟩ := ih lv best (by omega) ⟨i1, i2, fun h h1 h2 h3 => by
        rcases Nat.eq_or_lt_of_le h1 with rfl | h4
        · rw [hbt] at h3; cases h3
        · exact i3 h h4 h2 h3⟩
      refine ⟨a.elim Or.inl (fun a => Or.inr ⟨⟨a.1.1, a.1.2.1, fun i hi => a.1.2.2 i (by omega)⟩, a.2⟩), fun S h hS => b S ⟨h.1, h.2.1, fun i hi => ?_⟩ hS⟩
      rcases Nat.eq_or_lt_of_le hi with rfl | h4
      · rw [hbt, h.2.1 k hbt]
      · exact h.2.2 i h4
    have hb := Decidable.not_not.mp hb
    rw [if_pos hb]
    have hbf : lv.testBit k = false := bit_0.mp hb
    -- the goods stay
    have hup : ∀ i, k + 1 ≤ i → (rows k).testBit i = true → lv.testBit i = true := by
      intro i hi hr
      have hin : i < n := hab i (hsub k hkn i hr)
      cases e2 : lv.testBit i with
      | true => rfl
      | false =>
        have h1 := i3 i hi hin e2 k (by rw [← hsym k i hkn hin]; exact hr)
        rw [hbf] at h1; cases h1
    have h1k : (lv ||| rows k).testBit k = false := by rw [Nat.testBit_or, hbf, hself k hkn]; rfl
    have h1i : ∀ i, k + 1 ≤ i → (lv ||| rows k).testBit i = lv.testBit i := by
      intro i hi
      rw [Nat.testBit_or]
      cases e2 : (rows k).testBit i with
      | false => rw [Bool.or_false]
      | true => rw [hup i hi e2]; rfl
    obtain ⟨a1, b1⟩ := ih (lv ||| rows k) best (by omega) ⟨i1.tr (sub_or1 _ _), sub_or i2 (hsub k hkn), fun h h1 h2 h3 => by
      rcases Nat.eq_or_lt_of_le h1 with rfl | h4
      · exact sub_or2 _ _
      · exact (i3 h h4 h2 (by rw [← h1i h h4]; exact h3)).tr (sub_or1 _ _)⟩
    -- sets without k, and the stayers' search
    have toK : ∀ S, Cand rows n wr (k + 1) lv S → S.testBit k = false → Cand rows n wr k (lv ||| rows k) S := by
      intro S h hk0
      refine ⟨h.1, sub_or h.2.1 (h.1.2 k hkn hk0), fun i hi => ?_⟩
      rcases Nat.eq_or_lt_of_le hi with rfl | h4
      · rw [hk0, h1k]
      · rw [h1i i h4]; exact h.2.2 i h4
    have ofK : ∀ S, Cand rows n wr k (lv ||| rows k) S → Cand rows n wr (k + 1) lv S ∧ S.testBit k = false := fun S h => ⟨⟨h.1, (sub_or1 _ _).tr h.2.1, fun i hi => by rw [h.2.2 i (by omega), h1i i hi]⟩, by rw [h.2.2 k (Nat.le_refl _), h1k]⟩
    generalize srch rows k (lv ||| rows k) best = bk at a1 b1 ⊢
    have a1' : bk = best ∨ (Cand rows n wr (k + 1) lv bk ∧ Sub bk ab ∧ pcn bk < pcn best) := a1.elim Or.inl (fun a => Or.inr ⟨(ofK _ a.1).1, a.2⟩)
    have hr16 : rows k < 65536 := sub_lt (m := 16) (hsub k hkn) hab16
    by_cases hpr : rows k &&& (65535 ^^^ lv) = 0
    · rw [if_pos hpr]
      have hrl : Sub (rows k) lv := (sub_0 hr16).mp hpr
      refine ⟨a1', fun S h hS => ?_⟩
      cases hk0 : S.testBit k with
      | false => exact b1 S (toK S h hk0) hS
      | true =>
        have hx : ∀ j, (S ^^^ 2 ^ k).testBit j = (S.testBit j && !(decide (k = j))) := by
          intro j
          rw [Nat.testBit_xor, Nat.testBit_two_pow]
          by_cases e2 : k = j
          · subst e2; simp [hk0]
          · simp [e2]
        have hxS : Sub (S ^^^ 2 ^ k) S := fun j hj => by rw [hx j, Bool.and_eq_true] at hj; exact hj.1
        have hlx : Sub lv (S ^^^ 2 ^ k) := fun j hj => by
          rw [hx j, h.2.1 j hj]
          by_cases e2 : k = j
          · subst e2; rw [hbf] at hj; cases hj
          · simp [e2]
        have hxk : (S ^^^ 2 ^ k).testBit k = false := by rw [hx k]; simp
        have hcl : Cl rows n wr (S ^^^ 2 ^ k) := by
          refine ⟨i1.tr hlx, fun g hg hg0 => ?_⟩
          by_cases e2 : g = k
          · subst e2; exact hrl.tr hlx
          · have hgS : S.testBit g = false := by
              rw [hx g] at hg0
              have : ¬ k = g := fun z => e2 z.symm
              simpa [this] using hg0
            intro j hj
            have h4 := h.1.2 g hg hgS j hj
            rw [hx j, h4]
            by_cases e3 : k = j
            · subst e3
              have h5 : lv.testBit g = true := hrl g (by rw [hsym k g hkn hg]; exact hj)
              rw [h.2.1 g h5] at hgS; cases hgS
            · simp [e3]
        have hc : Cand rows n wr k (lv ||| rows k) (S ^^^ 2 ^ k) := by
          refine ⟨hcl, sub_or hlx (hrl.tr hlx), fun i hi => ?_⟩
          rcases Nat.eq_or_lt_of_le hi with rfl | h4
          · rw [hxk, h1k]
          · rw [h1i i h4, hx i, h.2.2 i h4]
            have : ¬ k = i := by omega
            simp [this]
        have h6 := b1 _ hc (hxS.tr hS)
        have hS16 : S < 65536 := sub_lt (m := 16) hS hab16
        have h7 : pcn (S ^^^ 2 ^ k) < pcn S := by
          rcases Nat.lt_or_ge (pcn (S ^^^ 2 ^ k)) (pcn S) with q2 | q2
          · exact q2
          · have h8 := pc_inj hS16 hxS q2
            rw [h8, hk0] at hxk; cases hxk
        exact Or.inl (by omega)
    · rw [if_neg hpr]
      have hkab : ab.testBit k = true := by
        cases e2 : ab.testBit k with
        | true => rfl
        | false =>
          exfalso
          apply hpr
          apply (sub_0 hr16).mpr
          intro j hj
          have hjn : j < n := hab j (hsub k hkn j hj)
          have h4 := hsub j hjn k (by rw [hsym j k hjn hkn]; exact hj)
          rw [e2] at h4; cases h4
      have h2i : ∀ i, k + 1 ≤ i → (lv ||| 2 ^ k).testBit i = lv.testBit i := by
        intro i hi
        rw [Nat.testBit_or, Nat.testBit_two_pow]
        have : ¬ k = i := by omega
        simp [this]
      have h2k : (lv ||| 2 ^ k).testBit k = true := by rw [Nat.testBit_or, Nat.testBit_two_pow]; simp
      obtain ⟨a2, b2⟩ := ih (lv ||| 2 ^ k) bk (by omega) ⟨i1.tr (sub_or1 _ _), sub_or i2 (sub_pow hkab), fun h h1 h2 h3 => by
        rcases Nat.eq_or_lt_of_le h1 with rfl | h4
        · rw [h2k] at h3; cases h3
        · exact (i3 h h4 h2 (by rw [← h2i h h4]; exact h3)).tr (sub_or1 _ _)⟩
      generalize srch rows k (lv ||| 2 ^ k) bk = r at a2 b2 ⊢
      have hbb : bk = best ∨ pcn bk < pcn best := a1'.elim Or.inl (fun a => Or.inr a.2.2)
      constructor
      · rcases a2 with rfl | ⟨c2, s2, p2⟩
        · exact a1'
        · refine Or.inr ⟨⟨c2.1, (sub_or1 _ _).tr c2.2.1, fun i hi => by rw [c2.2.2 i (by omega), h2i i hi]⟩, s2, ?_⟩
          rcases hbb with h | h
          · rw [← h]; exact p2
          · omega
      · intro S h hS
        cases hk0 : S.testBit k with
        | false =>
          have h6 := b1 S (toK S h hk0) hS
          rcases a2 with rfl | ⟨c2, s2, p2⟩
          · exact h6
          · exact Or.inl (by omega)
        | true =>
          have hc : Cand rows n wr k (lv ||| 2 ^ k) S := by
            refine ⟨h.1, sub_or h.2.1 (sub_pow hk0), fun i hi => ?_⟩
            rcases Nat.eq_or_lt_of_le hi with rfl | h4
            · rw [hk0, h2k]
            · rw [h2i i h4]; exact h.2.2 i h4
          rcases b2 S hc hS with h6 | ⟨h6, h7⟩
          · exact Or.inl h6
          · refine Or.inr ⟨h6, ?_⟩
            rcases h7 with rfl | h7
            · rcases a1 with h8 | ⟨c1, s1, p1⟩
              · exact Or.inl h8
              · right
                obtain ⟨c3, k3⟩ := ofK _ c1
                exact Nat.le_of_lt (lt_tb k k3 hk0 (fun j hj => by rw [c3.2.2 j hj, h.2.2 j hj]))
            · exact Or.inr h7
theorem srch_Best {rows : Nat → Nat} {n wr ab : Nat} (hp : Plan rows n wr ab) : Best rows n wr ab (srch rows n wr ab) := by
  obtain ⟨hn, hsym, hself, hsub, hwr, hab⟩ := id hp
  have hab16 : ab < 65536 := by
    apply Nat.lt_pow_two_of_testBit (n := 16)
    intro i hi
    apply tb_f
    intro e
    have := hab i e
    omega
  obtain ⟨a, b⟩ := srch_best hp n wr ab (Nat.le_refl _) ⟨Sub.rf _, hwr, fun h h1 h2 _ => absurd h2 (by omega)⟩
  refine ⟨?_, ?_, fun S hS hc => ?_⟩
  · rcases a with h | h
    · rw [h]; exact Sub.rf _
    · exact h.2.1
  · rcases a with h | h
    · rw [h]; exact ⟨hwr, fun g hg _ => hsub g hg⟩
    · exact h.1.1
  · have hi : ∀ T, Sub T ab → ∀ i, n ≤ i → T.testBit i = false := fun T hT i hi => tb_f (fun e => by have := hab i (hT i e); omega)
    rcases b S ⟨hc, hc.1, fun i h => by rw [hi S hS i h, hi wr hwr i h]⟩ hS with h | ⟨h, h2⟩
    · exact Or.inl h
    · refine Or.inr ⟨h, ?_⟩
      rcases h2 with h2 | h2
      · rw [h2] at h ⊢
        rw [pc_inj hab16 hS (by omega)]
        exact Nat.le_refl _
      · exact h2

/-! the reference's walk over the sets, and the two sets are one -/
theorem land_half (a b : Nat) : (a &&& b) / 2 = a / 2 &&& b / 2 := by
  apply Nat.eq_of_testBit_eq
  intro i
  rw [← Nat.testBit_add_one, Nat.testBit_and, Nat.testBit_and, Nat.testBit_add_one, Nat.testBit_add_one]
theorem land_mod (a b : Nat) : (a &&& b) % 2 = (a % 2) * (b % 2) := by
  have h := Nat.testBit_and a b 0
  rw [Nat.testBit_zero, Nat.testBit_zero, Nat.testBit_zero] at h
  rcases Nat.mod_two_eq_zero_or_one a with ha | ha <;> rcases Nat.mod_two_eq_zero_or_one b with hb | hb <;> rcases Nat.mod_two_eq_zero_or_one (a &&& b) with hc | hc <;> rw [ha, hb, hc] at h <;> rw [ha, hb, hc] <;> revert h <;> decide
/-- below a set, no set of goods aboard is left out by the next one -/
theorem next_le : ∀ (f : Nat) {set ab S : Nat}, set < 2 ^ f → Sub set ab → Sub S ab → S < set → S ≤ (set - 1) &&& ab
  | 0, set, ab, S, hf, _, _, h => by
    have : set = 0 := by simpa using hf
    omega
  | f + 1, set, ab, S, hf, h1, h2, h => by
    have hs := sub_half h1
    have hS := sub_half h2
    have m1 := sub_mod h1
    have m2 := sub_mod h2
    have hd := land_half (set - 1) ab
    have hm := land_mod (set - 1) ab
    rcases Nat.mod_two_eq_zero_or_one set with h0 | h0
    · have e1 : (set - 1) / 2 = set / 2 - 1 := by omega
      have e2 : (set - 1) % 2 = 1 := by omega
      have ih := next_le f (by rw [Nat.pow_succ] at hf; omega) hs hS (by omega)
      rw [e1] at hd
      rw [e2, Nat.one_mul] at hm
      omega
    · have e1 : (set - 1) / 2 = set / 2 := by omega
      have e3 : set / 2 &&& ab / 2 = set / 2 := by
        apply Nat.eq_of_testBit_eq
        intro i
        rw [Nat.testBit_and]
        cases e : (set / 2).testBit i with
        | false => rfl
        | true => rw [hs i e]; rfl
      rw [e1, e3] at hd
      omega
theorem sub_le : ∀ (f : Nat) {a b : Nat}, b < 2 ^ f → Sub a b → a ≤ b
  | 0, a, b, hb, h => by
    have h1 := sub_lt h hb
    have : a = 0 := by simpa using h1
    omega
  | f + 1, a, b, hb, h => by
    have h1 := sub_le f (by rw [Nat.pow_succ] at hb; omega) (sub_half h)
    have h2 := sub_mod h
    omega
theorem land_sub (a b : Nat) : Sub (a &&& b) b := fun j h => by rw [Nat.testBit_and, Bool.and_eq_true] at h; exact h.2
theorem mL_best {rows : Nat → Nat} {n wr ab : Nat} {ok : Nat → Bool} (hok : ∀ S, Sub S ab → (ok S = true ↔ Cl rows n wr S)) (hab16 : ab < 65536) : ∀ (f set found : Nat), set < f → Sub set ab → Sub found ab → Cl rows n wr found → (∀ S, Sub S ab → Cl rows n wr S → set < S → pcn found < pcn S ∨ (pcn found = pcn S ∧ found ≤ S)) →
    Sub (mL ok ab f set found) ab ∧ Cl rows n wr (mL ok ab f set found) ∧ ∀ S, Sub S ab → Cl rows n wr S → 0 < S → pcn (mL ok ab f set found) < pcn S ∨ (pcn (mL ok ab f set found) = pcn S ∧ mL ok ab f set found ≤ S)
  | 0, set, found, hf, _, _, _, _ => absurd hf (Nat.not_lt_zero _)
  | f + 1, set, found, hf, hs, hfo, hc, hb => by
    have e : mL ok ab (f + 1) set found = if set = 0 then found else mL ok ab f ((set - 1) &&& ab) (if ok set = true then (if pcn found < pcn set then found else set) else found) := rfl
    rw [e]
    by_cases h0 : set = 0
    · rw [if_pos h0]
      exact ⟨hfo, hc, fun S h1 h2 h3 => hb S h1 h2 (by omega)⟩
    · rw [if_neg h0]
      have hset16 : set < 65536 := sub_lt (m := 16) hs hab16
      have hle : (set - 1) &&& ab ≤ set - 1 := Nat.and_le_left
      have hnx : ∀ S, Sub S ab → (set - 1) &&& ab < S → S = set ∨ set < S := by
        intro S hS h
        rcases Nat.lt_trichotomy S set with q | q | q
        · have := next_le 16 hset16 hs hS q
          omega
        · exact Or.inl q
        · exact Or.inr q
      apply mL_best hok hab16 f
      · omega
      · exact land_sub _ _
      · split
        · split
          · exact hfo
          · exact hs
        · exact hfo
      · split
        · next h5 =>
          split
          · exact hc
          · exact (hok set hs).mp h5
        · exact hc
      · intro S hS hcS h
        by_cases h5 : ok set = true
        · rw [if_pos h5]
          by_cases h6 : pcn found < pcn set
          · rw [if_pos h6]
            rcases hnx S hS h with rfl | q
            · exact Or.inl h6
            · exact hb S hS hcS q
          · rw [if_neg h6]
            rcases hnx S hS h with rfl | q
            · exact Or.inr ⟨rfl, Nat.le_refl _⟩
            · have := hb S hS hcS q
              omega
        · rw [if_neg h5]
          rcases hnx S hS h with rfl | q
          · exact absurd ((hok S hs).mpr hcS) h5
          · exact hb S hS hcS q
theorem cw_iff {rows : Nat → Nat} {gone wr n : Nat} (hw : wr < 65536) (hr : ∀ g, g < n → rows g < 65536) : cwK rows gone wr n = true ↔ Cl rows n wr gone := by
  unfold cwK Cl
  by_cases h : wr &&& (65535 ^^^ gone) = 0
  · rw [if_pos h]
    constructor
    · intro h2
      refine ⟨(sub_0 hw).mp h, fun g hg hg0 => ?_⟩
      have h3 := allB_at h2 g hg
      simp only [cwB, hg0, Bool.false_eq_true, if_false] at h3
      by_cases h4 : rows g &&& (65535 ^^^ gone) = 0
      · exact (sub_0 (hr g hg)).mp h4
      · rw [if_neg h4] at h3; cases h3
    · rintro ⟨-, h2⟩
      apply allB_all
      intro g hg
      cases e : gone.testBit g with
      | true => simp [cwB, e]
      | false => simp [cwB, e, (sub_0 (hr g hg)).mpr (h2 g hg e)]
  · rw [if_neg h]
    exact ⟨fun k => absurd k (by decide), fun k => absurd ((sub_0 hw).mpr k.1) h⟩
theorem foes_bit {F : Nat → Nat → Int32} {n i j : Nat} : (mFoes F n i).testBit j = (decide (j < n) && qB F i j) := by
  unfold mFoes
  rw [bs_bit]
  rfl
theorem ab_bit {F : Nat → Nat → Int32} {n j : Nat} : (mAb F n).testBit j = (decide (j < n) && (if F 7 j = -1 then false else true)) := by
  unfold mAb
  rw [bs_bit]
theorem wr_bit {F : Nat → Nat → Int32} {n j : Nat} : (mWrongs F n).testBit j = (decide (j < n) && (if F 7 j = -1 then false else mWrong F j (F 7 j))) := by
  unfold mWrongs
  rw [bs_bit]
theorem plan_of {F : Nat → Nat → Int32} {n : Nat} (hw : WF F n) (hs : SY F) : Plan (fun g => mFoes F n g) n (mWrongs F n) (mAb F n) := by
  refine ⟨hw.n, fun i j hi hj => ?_, fun i hi => ?_, fun i hi j hj => ?_, fun j hj => ?_, fun j hj => ?_⟩
  · show (mFoes F n i).testBit j = (mFoes F n j).testBit i
    rw [foes_bit, foes_bit, qB_sym hw hs hi hj]; simp [hi, hj]
  · show (mFoes F n i).testBit i = false
    rw [foes_bit, qB_self, Bool.and_false]
  · have h1 : (mFoes F n i).testBit j = true := hj
    rw [foes_bit, Bool.and_eq_true, decide_eq_true_eq] at h1
    rw [ab_bit]
    have h2 : ¬ F 7 j = -1 := by
      intro e
      have h3 := h1.2
      unfold qB mFoe at h3
      by_cases a : F 7 i = -1 <;> by_cases b : i = j <;> simp [a, b, e] at h3
    simp [h1.1, h2]
  · rw [wr_bit, Bool.and_eq_true, decide_eq_true_eq] at hj
    rw [ab_bit]
    have h2 : ¬ F 7 j = -1 := by
      intro e
      have h3 := hj.2
      simp [e] at h3
    simp [hj.1, h2]
  · rw [ab_bit, Bool.and_eq_true, decide_eq_true_eq] at hj
    exact hj.1
theorem mLeast_Best {F : Nat → Nat → Int32} {n : Nat} (hw : WF F n) (hs : SY F) : Best (fun g => mFoes F n g) n (mWrongs F n) (mAb F n) (mLeast F n) := by
  have hp := plan_of hw hs
  obtain ⟨hn, hsym, hself, hsub, hwr, hab⟩ := id hp
  have hab16 : mAb F n < 65536 := bs_16 hn
  have hiff : ∀ S, mOk F n S = true ↔ Cl (fun g => mFoes F n g) n (mWrongs F n) S := fun S => cw_iff (bs_16 hn) (fun g _ => bs_16 hn)
  unfold mLeast
  by_cases h0 : mOk F n 0 = true
  · rw [if_pos h0]
    refine ⟨fun j h => absurd h (by rw [Nat.zero_testBit]; decide), (hiff 0).mp h0, fun S _ _ => ?_⟩
    have e : pcn 0 = 0 := pcF_0 16
    rw [e]
    rcases Nat.eq_zero_or_pos (pcn S) with q | q
    · exact Or.inr ⟨q.symm, Nat.zero_le _⟩
    · exact Or.inl q
  · rw [if_neg h0]
    obtain ⟨a, b, c⟩ := mL_best (ok := mOk F n) (fun S _ => hiff S) hab16 65537 (mAb F n) (mAb F n) (by omega) (Sub.rf _) (Sub.rf _) ⟨hwr, fun g hg _ => hsub g hg⟩ (fun S hS _ h => absurd (sub_le 16 hab16 hS) (by omega))
    refine ⟨a, b, fun S hS hc => ?_⟩
    rcases Nat.eq_zero_or_pos S with q | q
    · rw [q] at hc; exact absurd ((hiff 0).mpr hc) h0
    · exact c S hS hc q
theorem srch_cong {rows rows' : Nat → Nat} : ∀ (k lv best : Nat), (∀ j, j < k → rows j = rows' j) → srch rows k lv best = srch rows' k lv best
  | 0, _, _, _ => rfl
  | k + 1, lv, best, h => by
    have hk := h k (Nat.lt_succ_self k)
    have h2 : ∀ j, j < k → rows j = rows' j := fun j hj => h j (Nat.lt_succ_of_lt hj)
    have i1 := srch_cong k (lv ||| rows' k) best h2
    have i2 := srch_cong k lv best h2
    have i3 : ∀ b, srch rows k (lv ||| 2 ^ k) b = srch rows' k (lv ||| 2 ^ k) b := fun b => srch_cong k _ b h2
    unfold srch
    rw [hk, i1, i2, i3]
theorem least_eq {F : Nat → Nat → Int32} {n : Nat} (hw : WF F n) (hs : SY F) : sLeast F n = mLeast F n := by
  have h1 := srch_Best (plan_of hw hs)
  have e : sLeast F n = srch (fun g => mFoes F n g) n (mWrongs F n) (mAb F n) := by
    unfold sLeast
    rw [srch_cong (rows' := fun g => mFoes F n g) n _ _ (fun j hj => at_eq hw hj)]
    rw [show bs (fun k => sMis F k (F 7 k)) n = mWrongs F n from bs_cong (fun k hk => mis7_eq hw hk)]
    rfl
  rw [e]
  exact best_one h1 (mLeast_Best hw hs)

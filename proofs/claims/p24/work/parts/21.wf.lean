/-! what every state of a run keeps -/
/-- the table is the same both ways -/
def SY (F : Nat → Nat → Int32) : Prop := ∀ a b, 1 ≤ a → a ≤ 9 → 1 ≤ b → b ≤ 9 → F 0 (a * 10 + b) = F 0 (b * 10 + a)
theorem wf_0 : WF (fun _ _ => 0) 0 := ⟨by decide, fun _ h => absurd h (Nat.not_lt_zero _), fun _ h => absurd h (Nat.not_lt_zero _), fun _ h => absurd h (Nat.not_lt_zero _), fun _ _ => ⟨0, by decide, rfl⟩, fun _ _ => Or.inl rfl⟩
theorem sy_0 : SY (fun _ _ => 0) := fun _ _ _ _ _ _ => rfl
theorem d4_ok {d : Int32} (h : mIn d 0 4 = true) : ∃ k, k ≤ 4 ∧ d = nI k := by
  have h1 : ¬ d < 0 := by intro k; simp [mIn, k] at h
  have h2 : ¬ 4 < d := by intro k; simp [mIn, h1, k] at h
  obtain ⟨g, hg, rfl⟩ := nI_of h1
  refine ⟨g, ?_, rfl⟩
  rcases Nat.lt_or_ge 4 g with q | q
  · exact absurd (show nI 4 < nI g from nI_lt q hg) h2
  · exact q
theorem upd_c {f : Nat → Int32} {k j : Nat} {x : Int32} : upd f k x j = if j = k then x else f j := by
  by_cases h : j = k
  · rw [if_pos h, h]; exact pk_us
  · rw [if_neg h]; exact pk_un h
theorem thSD_of {a b d : Int32} (h : thSD a b d = 0) : mIn a 1 9 = true ∧ mIn b 1 9 = true ∧ mIn d 0 4 = true := by
  cases e : mIn a 1 9 <;> cases e2 : mIn b 1 9 <;> cases e3 : mIn d 0 4 <;> simp [thSD, e, e2, e3] at h ⊢
theorem ix_nI {a b : Nat} : nI a * 10 + nI b = nI (a * 10 + b) := by
  rw [show (10 : Int32) = nI 10 from rfl, pk_mul, nI_add]
theorem sd_at {F : Nat → Nat → Int32} {a b : Nat} {d : Int32} (ha : a ≤ 9) (hb : b ≤ 9) (i : Nat) : fSD F (nI a) (nI b) d 0 i = if i = b * 10 + a then d else if i = a * 10 + b then d else F 0 i := by
  show upd (upd (F 0) (nI a * 10 + nI b).toNatClampNeg d) (nI b * 10 + nI a).toNatClampNeg d i = _
  rw [ix_nI, ix_nI, nI_clamp (by omega), nI_clamp (by omega), upd_c, upd_c]
theorem wf_sd {F : Nat → Nat → Int32} {n : Nat} {a b d : Int32} (hw : WF F n) (h : thSD a b d = 0) : WF (fSD F a b d) n := by
  obtain ⟨h1, h2, h3⟩ := thSD_of h
  obtain ⟨a, -, ha, rfl⟩ := cl_ok h1
  obtain ⟨b, -, hb, rfl⟩ := cl_ok h2
  refine ⟨hw.1, hw.2.1, hw.2.2.1, hw.2.2.2.1, fun i hi => ?_, hw.2.2.2.2.2⟩
  rw [sd_at ha hb]
  split
  · exact d4_ok h3
  · split
    · exact d4_ok h3
    · exact hw.t0 hi
theorem sy_sd {F : Nat → Nat → Int32} {a b d : Int32} (hs : SY F) (h : thSD a b d = 0) : SY (fSD F a b d) := by
  obtain ⟨h1, h2, h3⟩ := thSD_of h
  obtain ⟨a, ha1, ha, rfl⟩ := cl_ok h1
  obtain ⟨b, hb1, hb, rfl⟩ := cl_ok h2
  intro x y hx1 hx hy1 hy
  rw [sd_at ha hb, sd_at ha hb]
  by_cases e1 : x = a ∧ y = b
  · obtain ⟨rfl, rfl⟩ := e1
    simp
  · by_cases e2 : x = b ∧ y = a
    · obtain ⟨rfl, rfl⟩ := e2
      simp
    · rw [if_neg (by omega), if_neg (by omega), if_neg (by omega), if_neg (by omega)]
      exact hs x y hx1 hx hy1 hy
theorem wf_sq {F : Nat → Nat → Int32} {n : Nat} {c l e : Int32} (hw : WF F n) : WF (fSQ F c l e) n := hw
theorem sy_sq {F : Nat → Nat → Int32} {c l e : Int32} (hs : SY F) : SY (fSQ F c l e) := hs
theorem thBar_of {c d : Int32} (h : thBar c d = 0) : mIn c 1 9 = true ∧ mIn d 0 1 = true := by
  cases e : mIn c 1 9 <;> cases e2 : mIn d 0 1 <;> simp [thBar, e, e2] at h ⊢
theorem wf_bar {F : Nat → Nat → Int32} {n : Nat} {c d : Int32} {b : Bool} (hw : WF F n) : WF (fBar F c d b) n := by
  refine ⟨hw.1, hw.2.1, hw.2.2.1, hw.2.2.2.1, hw.2.2.2.2.1, fun i hi => ?_⟩
  show upd (F 3) _ (bi b) i = 0 ∨ upd (F 3) _ (bi b) i = 1
  rw [upd_c]
  split
  · cases b
    · exact Or.inl rfl
    · exact Or.inr rfl
  · exact hw.b3 hi
theorem sy_bar {F : Nat → Nat → Int32} {c d : Int32} {b : Bool} (hs : SY F) : SY (fBar F c d b) := hs
theorem thAdd_of {n : Nat} {c s x : Int32} (h : thAdd n c s x = 0) : mIn c 1 9 = true ∧ subOk c s = true ∧ mIn x 1 10000 = true ∧ ¬ n = 16 := by
  cases e : mIn c 1 9 <;> cases e2 : subOk c s <;> cases e3 : mIn x 1 10000 <;> by_cases e4 : n = 16 <;> simp [thAdd, e, e2, e3, e4] at h ⊢
theorem subOk_ok {c s : Int32} (h : subOk c s = true) : okC s := by
  by_cases e : s = -1
  · exact Or.inl e
  · cases e2 : mIn s 1 9 with
    | true => exact cl_okC e2
    | false => simp [subOk, e, e2] at h
theorem wf_add {F : Nat → Nat → Int32} {n : Nat} {c s x : Int32} (hw : WF F n) (h : thAdd n c s x = 0) : WF (fAdd F n c s x) (n + 1) := by
  obtain ⟨h1, h2, h3, h4⟩ := thAdd_of h
  have hn := hw.n
  refine ⟨by omega, fun g hg => ?_, fun g hg => ?_, fun g hg => ?_, hw.2.2.2.2.1, hw.2.2.2.2.2⟩
  · show okC (upd (F 4) n c g) ∧ upd (F 4) n c g ≠ -1
    rw [upd_c]
    split
    · exact ⟨cl_okC h1, cl_ne h1⟩
    · exact hw.2.1 g (by omega)
  · show okC (upd (F 5) n s g)
    rw [upd_c]
    split
    · exact subOk_ok h2
    · exact hw.c5 (by omega)
  · show okP (upd (F 7) n (-1) g)
    rw [upd_c]
    split
    · exact Or.inl rfl
    · exact hw.p7 (by omega)
theorem sy_add {F : Nat → Nat → Int32} {n : Nat} {c s x : Int32} (hs : SY F) : SY (fAdd F n c s x) := hs
theorem wf_q {F : Nat → Nat → Int32} {n g : Nat} {x : Int32} (hw : WF F n) : WF (fQ F g x) n := hw
theorem sy_q {F : Nat → Nat → Int32} {g : Nat} {x : Int32} (hs : SY F) : SY (fQ F g x) := hs
theorem thP_of {n : Nat} {v p : Int32} (h : thP n v p = 0) : mIn v 0 (nI n - 1) = true ∧ okP p := by
  cases e : mIn v 0 (nI n - 1) with
  | false => simp [thP, e] at h
  | true =>
    refine ⟨rfl, ?_⟩
    by_cases e2 : p = -1
    · exact Or.inl e2
    · cases e3 : mIn p 0 47 with
      | true => exact pl_okP e3
      | false => simp [thP, e, e2, e3] at h
theorem wf_p {F : Nat → Nat → Int32} {n g : Nat} {p : Int32} (hw : WF F n) (h : okP p) : WF (fP F g p) n := by
  refine ⟨hw.1, hw.2.1, hw.2.2.1, fun k hk => ?_, hw.2.2.2.2.1, hw.2.2.2.2.2⟩
  show okP (upd (F 7) g p k)
  rw [upd_c]
  split
  · exact h
  · exact hw.p7 hk
theorem sy_p {F : Nat → Nat → Int32} {g : Nat} {p : Int32} (hs : SY F) : SY (fP F g p) := hs
/-- what two goods need is the same both ways -/
theorem tab_sym {F : Nat → Nat → Int32} {c d : Int32} (hs : SY F) (hc : okC c) (hd : okC d) : sTab F c d = sTab F d c := by
  unfold sTab
  by_cases h1 : c = -1
  · simp [h1]
  by_cases h2 : d = -1
  · simp [h2]
  rw [if_neg h1, if_neg h2, if_neg h2, if_neg h1]
  rcases hc with h | ⟨a, a1, a2, rfl⟩
  · exact absurd h h1
  rcases hd with h | ⟨b, b1, b2, rfl⟩
  · exact absurd h h2
  rw [ix_nI, ix_nI, nI_clamp (by omega), nI_clamp (by omega)]
  exact hs a b a1 a2 b1 b2
theorem iMax_i (x y : Int32) : (iMax x y).toInt = max x.toInt y.toInt := by
  unfold iMax
  by_cases h : x < y
  · rw [if_pos h]; rw [Int32.lt_iff_toInt_lt] at h; omega
  · rw [if_neg h]; rw [Int32.lt_iff_toInt_lt] at h; omega
theorem max_4 {a b c d : Int32} : iMax (iMax a b) (iMax c d) = iMax (iMax a c) (iMax b d) := by
  apply Int32.toInt_inj.mp
  simp only [iMax_i]
  omega
theorem great_sym {F : Nat → Nat → Int32} {n g h : Nat} (hw : WF F n) (hs : SY F) (hg : g < n) (hh : h < n) : sGreat F g h = sGreat F h g := by
  unfold sGreat
  rw [max_4, tab_sym hs (hw.c4 hg) (hw.c4 hh), tab_sym hs (hw.c5 hg) (hw.c4 hh), tab_sym hs (hw.c4 hg) (hw.c5 hh), tab_sym hs (hw.c5 hg) (hw.c5 hh)]
theorem need_sym {F : Nat → Nat → Int32} {n g h : Nat} (hw : WF F n) (hs : SY F) (hg : g < n) (hh : h < n) : sNeed F g h = sNeed F h g := by
  unfold sNeed
  rw [great_sym hw hs hg hh]
  generalize sGreat F h g = z
  generalize iMax (z - 1) 0 = y
  cases sExc F g <;> cases sExc F h <;> cases sLim F g <;> cases sLim F h <;> simp
theorem breach_sym {F : Nat → Nat → Int32} {n g h : Nat} (hw : WF F n) (hs : SY F) (hg : g < n) (hh : h < n) : sBreach F g (F 7 g) h = sBreach F h (F 7 h) g := by
  unfold sBreach
  by_cases h1 : F 7 g = -1 <;> by_cases h2 : F 7 h = -1 <;> simp only [h1, h2, if_true, if_false]
  rw [dist_symP (hw.p7 hg) (hw.p7 hh) h1 h2, need_sym hw hs hg hh]

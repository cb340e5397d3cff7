/-! the law's rows follow the desk's -/
theorem cl_in {k : Nat} (h1 : 1 ≤ k) (h2 : k ≤ 9) : mIn (nI k) 1 9 = true := by
  have a : ¬ nI k < (1 : Int32) := nI_nlt (a := k) (b := 1) h1 (by omega)
  have b : ¬ (9 : Int32) < nI k := nI_nlt (a := 9) (b := k) h2 (by decide)
  simp [mIn, a, b]
theorem qn_in {k : Nat} (h1 : 1 ≤ k) (h2 : k ≤ 10000) : mIn (nI k) 1 10000 = true := by
  have a : ¬ nI k < (1 : Int32) := nI_nlt (a := k) (b := 1) h1 (by omega)
  have b : ¬ (10000 : Int32) < nI k := nI_nlt (a := 10000) (b := k) h2 (by decide)
  simp [mIn, a, b]
theorem lq_in {k n : Nat} (h2 : k ≤ n) (hn : n < 2 ^ 31) : mIn (nI k) 0 (nI n) = true := by
  have a : ¬ nI k < (0 : Int32) := nI_pos (by omega)
  have b : ¬ nI n < nI k := nI_nlt h2 hn
  simp [mIn, a, b]
theorem sub_a {o1 : Nat} : subOk (nI o1) (-1) = true := subOk_t (Or.inl rfl)
theorem sub_b {o1 o2 : Nat} (h1 : 1 ≤ o2) (h2 : o2 ≤ 9) (h3 : o1 ≤ 9) (h : ¬ o1 = o2) : subOk (nI o1) (nI o2) = true := subOk_t (Or.inr ⟨cl_in h1 h2, fun e => h (nq_eq e (by omega) (by omega)).symm⟩)
theorem iv_0 : IV (fun _ _ => 0) 0 (fun _ => 0) (fun _ => 0) (fun _ => 0) := ⟨by decide, fun _ _ _ _ _ _ => rfl, fun _ _ _ => ⟨rfl, rfl, 0, by decide, rfl, rfl, rfl⟩, fun _ h => absurd h (Nat.not_lt_zero _)⟩
theorem iv_add {F : Nat → Nat → Int32} {n : Nat} {T M G : Nat → Int32} {c s x g1 : Int32} (hv : IV F n T M G) (hn : n < 10) (hg : g1 = if s = -1 then 0 else s) : IV (fAdd F n c s x) (n + 1) T M (upd (upd (upd G (3 * n) c) (3 * n + 1) g1) (3 * n + 2) x) := by
  obtain ⟨h1, h2, h3, h4⟩ := hv
  refine ⟨by omega, h2, h3, fun k hk => ?_⟩
  show upd (upd (upd G (3 * n) c) (3 * n + 1) g1) (3 * n + 2) x (3 * k) = upd (F 4) n c k ∧ upd (upd (upd G (3 * n) c) (3 * n + 1) g1) (3 * n + 2) x (3 * k + 1) = (if upd (F 5) n s k = -1 then 0 else upd (F 5) n s k) ∧ upd (upd (upd G (3 * n) c) (3 * n + 1) g1) (3 * n + 2) x (3 * k + 2) = upd (F 6) n x k
  simp only [upd_c]
  by_cases e : k = n
  · subst e
    rw [if_neg (by omega), if_neg (by omega), if_pos rfl, if_pos rfl, if_neg (by omega), if_pos rfl, if_pos rfl, if_pos rfl, if_pos rfl]
    exact ⟨rfl, hg, rfl⟩
  · have a1 : ¬ 3 * k = 3 * n := by omega
    have a2 : ¬ 3 * k = 3 * n + 1 := by omega
    have a3 : ¬ 3 * k = 3 * n + 2 := by omega
    have b1 : ¬ 3 * k + 1 = 3 * n := by omega
    have b2 : ¬ 3 * k + 1 = 3 * n + 1 := by omega
    have b3 : ¬ 3 * k + 1 = 3 * n + 2 := by omega
    have d1 : ¬ 3 * k + 2 = 3 * n := by omega
    have d2 : ¬ 3 * k + 2 = 3 * n + 1 := by omega
    have d3 : ¬ 3 * k + 2 = 3 * n + 2 := by omega
    rw [if_neg a3, if_neg a2, if_neg a1, if_neg b3, if_neg b2, if_neg b1, if_neg d3, if_neg d2, if_neg d1, if_neg e, if_neg e, if_neg e]
    exact h4 k (by omega)
theorem iv_sd {F : Nat → Nat → Int32} {n a b : Nat} {T M G : Nat → Int32} {d : Int32} (hv : IV F n T M G) (h1 : 1 ≤ a) (h2 : a ≤ 9) (h3 : 1 ≤ b) (h4 : b ≤ 9) : IV (fSD (fSD F (nI a) (nI b) d) (nI b) (nI a) d) n (upd T (tri a b) d) M G := by
  obtain ⟨k1, k2, k3, k4⟩ := hv
  refine ⟨k1, fun x y hx1 hx hy1 hy => ?_, k3, k4⟩
  rw [sd_at h4 h2, sd_at h2 h4, upd_c]
  by_cases e : tri x y = tri a b
  · rw [if_pos e]
    rcases tri_inj hx1 hx hy1 hy h1 h2 h3 h4 e with ⟨rfl, rfl⟩ | ⟨rfl, rfl⟩
    · simp
    · simp
  · rw [if_neg e]
    have e1 : ¬ (x = a ∧ y = b) := fun q => e (by rw [q.1, q.2])
    have e2 : ¬ (x = b ∧ y = a) := fun q => e (by rw [q.1, q.2]; exact tri_sym0 b (by omega) a (by omega))
    rw [if_neg (by omega), if_neg (by omega), if_neg (by omega), if_neg (by omega)]
    exact k2 x y hx1 hx hy1 hy
theorem sd_back {F : Nat → Nat → Int32} {a b : Nat} {d : Int32} (ha : a ≤ 9) (hb : b ≤ 9) : fSD F (nI a) (nI b) d 0 (nI b * 10 + nI a).toNatClampNeg = d := by
  rw [ix_nI, nI_clamp (by omega), sd_at ha hb, if_pos rfl]
theorem iv_sq {F : Nat → Nat → Int32} {n a : Nat} {T M G : Nat → Int32} {l x : Int32} (hv : IV F n T M G) (h1 : 1 ≤ a) (h2 : a ≤ 9) : IV (fSQ F (nI a) l x) n T (upd (upd M a l) (10 + a) x) G := by
  obtain ⟨k1, k2, k3, k4⟩ := hv
  refine ⟨k1, k2, fun c hc1 hc2 => ?_, k4⟩
  show upd (upd M a l) (10 + a) x c = upd (F 1) (nI a).toNatClampNeg l c ∧ upd (upd M a l) (10 + a) x (10 + c) = upd (F 2) (nI a).toNatClampNeg x c ∧ ∃ m, m < 4 ∧ upd (upd M a l) (10 + a) x (20 + c) = nI m ∧ F 3 (c * 2) = nI (m % 2) ∧ F 3 (c * 2 + 1) = nI (m / 2)
  rw [nI_clamp (by omega)]
  simp only [upd_c]
  obtain ⟨q1, q2, m, q3, q4, q5⟩ := k3 c hc1 hc2
  refine ⟨?_, ?_, m, q3, ?_, q5⟩
  · rw [if_neg (by omega)]
    by_cases e : c = a
    · rw [if_pos e, if_pos e]
    · rw [if_neg e, if_neg e]; exact q1
  · by_cases e : c = a
    · rw [if_pos (by omega), if_pos e]
    · rw [if_neg (by omega), if_neg (by omega), if_neg e]; exact q2
  · rw [if_neg (by omega), if_neg (by omega)]; exact q4
def bset (m d : Nat) : Nat := if d = 0 then 1 + 2 * (m / 2) else m % 2 + 2
def bclr (m d : Nat) : Nat := if d = 0 then 2 * (m / 2) else m % 2
theorem bset_i : ∀ m, m < 4 → ∀ d, d < 2 → ((nI m &&& (((1 : Int32) <<< (nI d &&& 31)) ^^^ (-1))) ||| ((1 : Int32) <<< (nI d &&& 31))) = nI (bset m d) := by decide +kernel
theorem bclr_i : ∀ m, m < 4 → ∀ d, d < 2 → ((nI m &&& (((1 : Int32) <<< (nI d &&& 31)) ^^^ (-1))) ||| 0) = nI (bclr m d) := by decide +kernel
theorem iv_bar {F : Nat → Nat → Int32} {n a d m m' : Nat} {T M G : Nat → Int32} {b : Bool} (hv : IV F n T M G) (h1 : 1 ≤ a) (h2 : a ≤ 9) (hd : d < 2) (hm' : m' < 4) (e0 : F 3 (a * 2) = nI (m % 2)) (e1 : F 3 (a * 2 + 1) = nI (m / 2)) (hd0 : d = 0 → nI (m' % 2) = bi b ∧ m' / 2 = m / 2) (hd1 : d = 1 → nI (m' / 2) = bi b ∧ m' % 2 = m % 2) : IV (fBar F (nI a) (nI d) b) n T (upd M (20 + a) (nI m')) G := by
  obtain ⟨k1, k2, k3, k4⟩ := hv
  refine ⟨k1, k2, fun c hc1 hc2 => ?_, k4⟩
  have ei : (nI a * 2 + nI d).toNatClampNeg = a * 2 + d := by
    rw [show (2 : Int32) = nI 2 from rfl, pk_mul, nI_add, nI_clamp (by omega)]
  show upd M (20 + a) (nI m') c = F 1 c ∧ upd M (20 + a) (nI m') (10 + c) = F 2 c ∧ ∃ m9, m9 < 4 ∧ upd M (20 + a) (nI m') (20 + c) = nI m9 ∧ upd (F 3) (nI a * 2 + nI d).toNatClampNeg (bi b) (c * 2) = nI (m9 % 2) ∧ upd (F 3) (nI a * 2 + nI d).toNatClampNeg (bi b) (c * 2 + 1) = nI (m9 / 2)
  rw [ei]
  simp only [upd_c]
  obtain ⟨q1, q2, m9, q3, q4, q5, q6⟩ := k3 c hc1 hc2
  refine ⟨by rw [if_neg (by omega)]; exact q1, by rw [if_neg (by omega)]; exact q2, ?_⟩
  by_cases e : c = a
  · subst e
    refine ⟨m', hm', by rw [if_pos rfl], ?_⟩
    rcases (show d = 0 ∨ d = 1 by omega) with rfl | rfl
    · obtain ⟨z1, z2⟩ := hd0 rfl
      rw [if_pos (by omega), if_neg (by omega), z1, z2]
      exact ⟨rfl, e1⟩
    · obtain ⟨z1, z2⟩ := hd1 rfl
      rw [if_neg (by omega), if_pos (by omega), z1, z2]
      exact ⟨e0, rfl⟩
  · refine ⟨m9, q3, by rw [if_neg (by omega)]; exact q4, by rw [if_neg (by omega)]; exact q5, by rw [if_neg (by omega)]; exact q6⟩
theorem iv_set {F : Nat → Nat → Int32} {n a d m : Nat} {T M G : Nat → Int32} (hv : IV F n T M G) (h1 : 1 ≤ a) (h2 : a ≤ 9) (hd : d < 2) (hm : m < 4) (e0 : F 3 (a * 2) = nI (m % 2)) (e1 : F 3 (a * 2 + 1) = nI (m / 2)) : IV (fBar F (nI a) (nI d) true) n T (upd M (20 + a) (nI (bset m d))) G := by
  refine iv_bar hv h1 h2 hd ?_ e0 e1 (fun e => ?_) (fun e => ?_)
  · unfold bset; split <;> omega
  · subst e
    exact ⟨by rw [show bset m 0 % 2 = 1 by unfold bset; rw [if_pos rfl]; omega]; rfl, by unfold bset; rw [if_pos rfl]; omega⟩
  · subst e
    exact ⟨by rw [show bset m 1 / 2 = 1 by unfold bset; rw [if_neg (by decide)]; omega]; rfl, by unfold bset; rw [if_neg (by decide)]; omega⟩
theorem iv_clr {F : Nat → Nat → Int32} {n a d m : Nat} {T M G : Nat → Int32} (hv : IV F n T M G) (h1 : 1 ≤ a) (h2 : a ≤ 9) (hd : d < 2) (hm : m < 4) (e0 : F 3 (a * 2) = nI (m % 2)) (e1 : F 3 (a * 2 + 1) = nI (m / 2)) : IV (fBar F (nI a) (nI d) false) n T (upd M (20 + a) (nI (bclr m d))) G := by
  refine iv_bar hv h1 h2 hd ?_ e0 e1 (fun e => ?_) (fun e => ?_)
  · unfold bclr; split <;> omega
  · subst e
    exact ⟨by rw [show bclr m 0 % 2 = 0 by unfold bclr; rw [if_pos rfl]; omega]; rfl, by unfold bclr; rw [if_pos rfl]; omega⟩
  · subst e
    exact ⟨by rw [show bclr m 1 / 2 = 0 by unfold bclr; rw [if_neg (by decide)]; omega]; rfl, by unfold bclr; rw [if_neg (by decide)]; omega⟩
theorem bar_back {F : Nat → Nat → Int32} {n a d : Nat} (hw : WF F n) (h2 : a ≤ 9) (hd : d < 2) : (if F 3 (nI a * 2 + nI d).toNatClampNeg = 0 then 0 else 1) = F 3 (a * 2 + d) := by
  rw [show (2 : Int32) = nI 2 from rfl, pk_mul, nI_add, nI_clamp (by omega)]
  rcases hw.b3 (i := a * 2 + d) (by omega) with e | e <;> rw [e] <;> rfl
theorem iv_q {F : Nat → Nat → Int32} {n k : Nat} {T M G : Nat → Int32} {x : Int32} (hv : IV F n T M G) : IV (fQ F k x) n T M (upd G (3 * k + 2) x) := by
  obtain ⟨h1, h2, h3, h4⟩ := hv
  refine ⟨h1, h2, h3, fun j hj => ?_⟩
  show upd G (3 * k + 2) x (3 * j) = F 4 j ∧ upd G (3 * k + 2) x (3 * j + 1) = gs F j ∧ upd G (3 * k + 2) x (3 * j + 2) = upd (F 6) k x j
  simp only [upd_c]
  obtain ⟨q1, q2, q3⟩ := h4 j hj
  rw [if_neg (by omega), if_neg (by omega)]
  refine ⟨q1, q2, ?_⟩
  by_cases e : j = k
  · rw [if_pos (by omega), if_pos e]
  · rw [if_neg (by omega), if_neg e]; exact q3
theorem iv_p {F : Nat → Nat → Int32} {n k : Nat} {T M G : Nat → Int32} {p : Int32} (hv : IV F n T M G) : IV (fP F k p) n T M G := hv
theorem thP_ok {p : Int32} (h : p = -1 ∨ mIn p 0 47 = true) : okP p := h.elim Or.inl pl_okP

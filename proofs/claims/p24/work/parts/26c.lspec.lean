/-! words of the law: its rows and the desk's -/
theorem nl_ge {k n : Nat} (h : nI n ≤ nI k) (hk : k < 2 ^ 31) (hn : n < 2 ^ 31) : n ≤ k := (nI_leI hn hk).mp h
theorem nl_lt {k n : Nat} (h : ¬ nI n ≤ nI k) (hk : k < 2 ^ 31) (_ : n < 2 ^ 31) : k < n := nI_lt_of h hk
theorem nt_lt {k n : Nat} (h : nI k < nI n) (hk : k < 2 ^ 31) (hn : n < 2 ^ 31) : k < n := (nI_ltI hk hn).mp h
theorem nt_ge {k n : Nat} (h : ¬ nI k < nI n) (_ : k < 2 ^ 31) (hn : n < 2 ^ 31) : n ≤ k := Nat.le_of_not_lt (fun q => h (nI_lt q hn))
theorem nq_eq {k n : Nat} (h : nI k = nI n) (hk : k < 2 ^ 31) (hn : n < 2 ^ 31) : k = n := (nI_eq hk hn).mp h
theorem nq_ne {k n : Nat} (h : ¬ nI k = nI n) (_ : k < 2 ^ 31) (_ : n < 2 ^ 31) : ¬ k = n := fun e => h (by rw [e])
/-- the place of two classes in the law's row of distances -/
def tri (a b : Nat) : Nat := if a < b then (a - 1) * (20 - a) / 2 + a + b - 2 * a else (b - 1) * (20 - b) / 2 + a + b - 2 * b
theorem tri_l {a b : Nat} (h : a < b) : (a - 1) * (20 - a) / 2 + a + b - 2 * a = tri a b := by unfold tri; rw [if_pos h]
theorem tri_g {a b : Nat} (h : b ≤ a) : (b - 1) * (20 - b) / 2 + a + b - 2 * b = tri a b := by unfold tri; rw [if_neg (by omega)]
theorem tri_b : ∀ a, a < 10 → (a - 1) * (20 - a) < 2 ^ 31 := by decide +kernel
theorem tri_lt0 : ∀ a, a < 10 → ∀ b, b < 10 → 1 ≤ a → 1 ≤ b → tri a b < 64 := by decide +kernel
theorem tri_lt {a b : Nat} (h1 : 1 ≤ a) (h2 : a ≤ 9) (h3 : 1 ≤ b) (h4 : b ≤ 9) : tri a b < 64 := tri_lt0 a (by omega) b (by omega) h1 h3
def triP (a b c d : Nat) : Bool := !(Nat.beq (tri (a + 1) (b + 1)) (tri (c + 1) (d + 1))) || ((Nat.beq a c && Nat.beq b d) || (Nat.beq a d && Nat.beq b c))
theorem tri_c : allB (fun a => allB (fun b => allB (fun c => allB (fun d => triP a b c d) 9) 9) 9) 9 = true := by decide +kernel
theorem tri_inj {a b c d : Nat} (h1 : 1 ≤ a) (h2 : a ≤ 9) (h3 : 1 ≤ b) (h4 : b ≤ 9) (h5 : 1 ≤ c) (h6 : c ≤ 9) (h7 : 1 ≤ d) (h8 : d ≤ 9) (h : tri a b = tri c d) : (a = c ∧ b = d) ∨ (a = d ∧ b = c) := by
  have k := allB_at (allB_at (allB_at (allB_at tri_c (a - 1) (by omega)) (b - 1) (by omega)) (c - 1) (by omega)) (d - 1) (by omega)
  unfold triP at k
  rw [show a - 1 + 1 = a by omega, show b - 1 + 1 = b by omega, show c - 1 + 1 = c by omega, show d - 1 + 1 = d by omega, h] at k
  simp only [Nat.beq_refl, Bool.not_true, Bool.false_or, Bool.or_eq_true, Bool.and_eq_true] at k
  rcases k with ⟨k1, k2⟩ | ⟨k1, k2⟩
  · exact Or.inl ⟨by have := Nat.eq_of_beq_eq_true k1; omega, by have := Nat.eq_of_beq_eq_true k2; omega⟩
  · exact Or.inr ⟨by have := Nat.eq_of_beq_eq_true k1; omega, by have := Nat.eq_of_beq_eq_true k2; omega⟩
theorem tri_sym0 : ∀ a, a < 10 → ∀ b, b < 10 → tri a b = tri b a := by decide +kernel
/-- the subsidiary class as the law keeps it -/
def gs (F : Nat → Nat → Int32) (k : Nat) : Int32 := if F 5 k = -1 then 0 else F 5 k
/-- the law's rows say what the desk's say -/
def IV (F : Nat → Nat → Int32) (n : Nat) (T M G : Nat → Int32) : Prop := n ≤ 10 ∧ (∀ a b, 1 ≤ a → a ≤ 9 → 1 ≤ b → b ≤ 9 → T (tri a b) = F 0 (a * 10 + b)) ∧ (∀ c, 1 ≤ c → c ≤ 9 → M c = F 1 c ∧ M (10 + c) = F 2 c ∧ ∃ m, m < 4 ∧ M (20 + c) = nI m ∧ F 3 (c * 2) = nI (m % 2) ∧ F 3 (c * 2 + 1) = nI (m / 2)) ∧ (∀ k, k < n → G (3 * k) = F 4 k ∧ G (3 * k + 1) = gs F k ∧ G (3 * k + 2) = F 6 k)
theorem WF.cls {F : Nat → Nat → Int32} {n k : Nat} (hw : WF F n) (hk : k < n) : ∃ c, 1 ≤ c ∧ c ≤ 9 ∧ F 4 k = nI c := (hw.c4 hk).elim (fun e => absurd e (hw.c4n hk)) id
theorem gs_0 {F : Nat → Nat → Int32} {n k : Nat} (hw : WF F n) (hk : k < n) (h : gs F k = 0) : F 5 k = -1 := by
  unfold gs at h
  by_cases e : F 5 k = -1
  · exact e
  · rw [if_neg e] at h
    rcases hw.c5 hk with e2 | ⟨c, h1, h2, e2⟩
    · exact e2
    · rw [e2] at h; exact absurd h (nI_ne0 (by omega) (by omega))
theorem gs_n {F : Nat → Nat → Int32} {n k : Nat} (hw : WF F n) (hk : k < n) (h : ¬ gs F k = 0) : ∃ c, 1 ≤ c ∧ c ≤ 9 ∧ F 5 k = nI c ∧ gs F k = nI c := by
  unfold gs at h ⊢
  by_cases e : F 5 k = -1
  · rw [if_pos e] at h; exact absurd rfl h
  · rw [if_neg e] at h ⊢
    rcases hw.c5 hk with e2 | ⟨c, h1, h2, e2⟩
    · exact absurd e2 e
    · exact ⟨c, h1, h2, e2, e2⟩
theorem IV.n {F : Nat → Nat → Int32} {n : Nat} {T M G : Nat → Int32} (h : IV F n T M G) : n ≤ 10 := h.1
theorem IV.t {F : Nat → Nat → Int32} {n a b : Nat} {T M G : Nat → Int32} (h : IV F n T M G) (h1 : 1 ≤ a) (h2 : a ≤ 9) (h3 : 1 ≤ b) (h4 : b ≤ 9) : T (tri a b) = F 0 (a * 10 + b) := h.2.1 a b h1 h2 h3 h4
theorem IV.m0 {F : Nat → Nat → Int32} {n c : Nat} {T M G : Nat → Int32} (h : IV F n T M G) (h1 : 1 ≤ c) (h2 : c ≤ 9) : M (0 + c) = F 1 c := by rw [Nat.zero_add]; exact (h.2.2.1 c h1 h2).1
theorem IV.m1 {F : Nat → Nat → Int32} {n c : Nat} {T M G : Nat → Int32} (h : IV F n T M G) (h1 : 1 ≤ c) (h2 : c ≤ 9) : M (10 + c) = F 2 c := (h.2.2.1 c h1 h2).2.1
theorem IV.b {F : Nat → Nat → Int32} {n c : Nat} {T M G : Nat → Int32} (h : IV F n T M G) (h1 : 1 ≤ c) (h2 : c ≤ 9) : ∃ m, m < 4 ∧ M (20 + c) = nI m ∧ F 3 (c * 2) = nI (m % 2) ∧ F 3 (c * 2 + 1) = nI (m / 2) := (h.2.2.1 c h1 h2).2.2
theorem IV.g0 {F : Nat → Nat → Int32} {n k : Nat} {T M G : Nat → Int32} (h : IV F n T M G) (hk : k < n) : G (3 * k) = F 4 k := (h.2.2.2 k hk).1
theorem IV.g1 {F : Nat → Nat → Int32} {n k : Nat} {T M G : Nat → Int32} (h : IV F n T M G) (hk : k < n) : G (3 * k + 1) = gs F k := (h.2.2.2 k hk).2.1
theorem IV.g2 {F : Nat → Nat → Int32} {n k : Nat} {T M G : Nat → Int32} (h : IV F n T M G) (hk : k < n) : G (3 * k + 2) = F 6 k := (h.2.2.2 k hk).2.2
/-- the two decks of a class -/
theorem dk_bits : ∀ m, m < 4 → ∀ d, d < 2 → (nI m >>> (nI d &&& 31)) &&& 1 = nI (if d = 0 then m % 2 else m / 2) := by decide +kernel
theorem IV.d {F : Nat → Nat → Int32} {n c d : Nat} {T M G : Nat → Int32} (h : IV F n T M G) (h1 : 1 ≤ c) (h2 : c ≤ 9) (hd : d < 2) : (M (20 + c) >>> (nI d &&& 31)) &&& 1 = F 3 (c * 2 + d) := by
  obtain ⟨m, hm, e1, e2, e3⟩ := h.b h1 h2
  rw [e1, dk_bits m hm d hd]
  rcases (show d = 0 ∨ d = 1 by omega) with rfl | rfl
  · exact e2.symm
  · exact e3.symm
/-- within: as the law reads it -/
theorem wi_f1 {F : Nat → Nat → Int32} {k j c : Nat} (ec : F 4 k = nI c) (hc : c ≤ 9) (h : F j c < F 6 k) : sWithin F j k = false := by
  unfold sWithin; rw [ec, nI_clamp (by omega), if_pos h]
theorem wi_t1 {F : Nat → Nat → Int32} {k j c : Nat} (ec : F 4 k = nI c) (hc : c ≤ 9) (h : ¬ F j c < F 6 k) (h2 : F 5 k = -1) : sWithin F j k = true := by
  unfold sWithin; rw [ec, nI_clamp (by omega), if_neg h, if_pos h2]
theorem wi_f2 {F : Nat → Nat → Int32} {k j c c2 : Nat} (ec : F 4 k = nI c) (hc : c ≤ 9) (h : ¬ F j c < F 6 k) (e5 : F 5 k = nI c2) (hc2 : c2 ≤ 9) (h3 : F j c2 < F 6 k) : sWithin F j k = false := by
  unfold sWithin; rw [ec, nI_clamp (by omega), if_neg h, e5, if_neg (nI_ne_m1 (by omega)), nI_clamp (by omega), if_pos h3]
theorem wi_t2 {F : Nat → Nat → Int32} {k j c c2 : Nat} (ec : F 4 k = nI c) (hc : c ≤ 9) (h : ¬ F j c < F 6 k) (e5 : F 5 k = nI c2) (hc2 : c2 ≤ 9) (h3 : ¬ F j c2 < F 6 k) : sWithin F j k = true := by
  unfold sWithin; rw [ec, nI_clamp (by omega), if_neg h, e5, if_neg (nI_ne_m1 (by omega)), nI_clamp (by omega), if_neg h3]
/-! what two goods need, as the law walks it -/
def gv (F : Nat → Nat → Int32) (a i : Nat) : Int32 := if i = 0 then F 4 a else gs F a
def nd (F : Nat → Nat → Int32) (a b k : Nat) : Int32 := sTab F (if k % 2 = 0 then F 4 a else F 5 a) (if k / 2 = 0 then F 4 b else F 5 b)
def nacc (F : Nat → Nat → Int32) (a b : Nat) : Nat → Int32
  | 0 => 0
  | k + 1 => if nd F a b k ≤ nacc F a b k then nacc F a b k else nd F a b k
theorem IV.gv {F : Nat → Nat → Int32} {n a i : Nat} {T M G : Nat → Int32} (h : IV F n T M G) (ha : a < n) (hi : i < 2) : G (3 * a + i) = gv F a i := by
  rcases (show i = 0 ∨ i = 1 by omega) with rfl | rfl
  · exact h.g0 ha
  · exact h.g1 ha
theorem gv_n {F : Nat → Nat → Int32} {n a i : Nat} (hw : WF F n) (ha : a < n) (hi : i < 2) (h : ¬ gv F a i = 0) : ∃ c, 1 ≤ c ∧ c ≤ 9 ∧ gv F a i = nI c ∧ (if i = 0 then F 4 a else F 5 a) = nI c := by
  unfold gv at h ⊢
  rcases (show i = 0 ∨ i = 1 by omega) with rfl | rfl
  · obtain ⟨c, h1, h2, e⟩ := hw.cls ha
    exact ⟨c, h1, h2, e, e⟩
  · rw [if_neg (by decide)] at h
    obtain ⟨c, h1, h2, e1, e2⟩ := gs_n hw ha h
    exact ⟨c, h1, h2, by rw [if_neg (by decide)]; exact e2, by rw [if_neg (by decide)]; exact e1⟩
theorem gv_0 {F : Nat → Nat → Int32} {n a i : Nat} (hw : WF F n) (ha : a < n) (hi : i < 2) (h : gv F a i = 0) : (if i = 0 then F 4 a else F 5 a) = -1 := by
  unfold gv at h
  rcases (show i = 0 ∨ i = 1 by omega) with rfl | rfl
  · obtain ⟨c, h1, h2, e⟩ := hw.cls ha
    rw [if_pos rfl, e] at h
    exact absurd h (nI_ne0 (by omega) (by omega))
  · rw [if_neg (by decide)] at h ⊢
    exact gs_0 hw ha h
theorem nd_a {F : Nat → Nat → Int32} {n a b k : Nat} (hw : WF F n) (ha : a < n) (hk : k < 4) (h : gv F a (k % 2) = 0) : 0 = nd F a b k := by
  unfold nd sTab
  rw [gv_0 hw ha (by omega) h, if_pos rfl]
theorem nd_b {F : Nat → Nat → Int32} {n a b k : Nat} (hw : WF F n) (hb : b < n) (hk : k < 4) (h : gv F b (k / 2) = 0) : 0 = nd F a b k := by
  unfold nd sTab
  rw [gv_0 hw hb (by omega) h, if_pos rfl]
  by_cases e : (if k % 2 = 0 then F 4 a else F 5 a) = -1
  · rw [if_pos e]
  · rw [if_neg e]
theorem nd_t {F : Nat → Nat → Int32} {n a b k c d : Nat} {T M G : Nat → Int32} (hv : IV F n T M G) (h1 : 1 ≤ c) (h2 : c ≤ 9) (h3 : 1 ≤ d) (h4 : d ≤ 9) (e1 : (if k % 2 = 0 then F 4 a else F 5 a) = nI c) (e2 : (if k / 2 = 0 then F 4 b else F 5 b) = nI d) : T (tri c d) = nd F a b k := by
  unfold nd sTab
  rw [e1, e2, if_neg (nI_ne_m1 (by omega)), if_neg (nI_ne_m1 (by omega)), ix_nI, nI_clamp (by omega), hv.t h1 h2 h3 h4]
theorem nacc_i {F : Nat → Nat → Int32} {a b k : Nat} : (nacc F a b (k + 1)).toInt = max (nd F a b k).toInt (nacc F a b k).toInt := by
  show (if nd F a b k ≤ nacc F a b k then nacc F a b k else nd F a b k).toInt = _
  by_cases h : nd F a b k ≤ nacc F a b k
  · rw [if_pos h]; rw [Int32.le_iff_toInt_le] at h; omega
  · rw [if_neg h]; rw [Int32.le_iff_toInt_le] at h; omega
theorem isD_i {x : Int32} (h : isD x) : 0 ≤ x.toInt := by
  obtain ⟨d, hd, rfl⟩ := h
  rw [nI_toInt (by omega)]; omega
theorem nacc_4 {F : Nat → Nat → Int32} {n a b : Nat} (hw : WF F n) (ha : a < n) (hb : b < n) : nacc F a b 4 = sGreat F a b := by
  apply Int32.toInt_inj.mp
  have h0 : (nacc F a b 0).toInt = 0 := rfl
  have d0 : 0 ≤ (nd F a b 0).toInt := isD_i (tab_d hw (hw.c4 ha) (hw.c4 hb))
  unfold sGreat
  rw [nacc_i, nacc_i, nacc_i, nacc_i, h0, iMax_i, iMax_i, iMax_i]
  show max (sTab F (F 5 a) (F 5 b)).toInt (max (sTab F (F 4 a) (F 5 b)).toInt (max (sTab F (F 5 a) (F 4 b)).toInt (max (sTab F (F 4 a) (F 4 b)).toInt 0))) = _
  have d1 : 0 ≤ (sTab F (F 4 a) (F 4 b)).toInt := d0
  omega
/-! the first place where nothing is wrong -/
theorem lowV_ok {P : Nat → Bool} : ∀ (f j : Nat), j + f ≤ 48 → (lowV P j f = -1 ∧ ∀ k, j ≤ k → k < j + f → P k = false) ∨ ∃ k, j ≤ k ∧ k < j + f ∧ lowV P j f = nI k ∧ P k = true ∧ ∀ i, j ≤ i → i < k → P i = false
  | 0, j, _ => Or.inl ⟨rfl, fun k h1 h2 => absurd h2 (by omega)⟩
  | f + 1, j, h => by
    show ((if P j = true then nI j else lowV P (j + 1) f) = -1 ∧ _) ∨ ∃ k, j ≤ k ∧ k < j + (f + 1) ∧ (if P j = true then nI j else lowV P (j + 1) f) = nI k ∧ _
    cases e : P j with
    | true => exact Or.inr ⟨j, Nat.le_refl _, by omega, by rw [if_pos rfl], e, fun i h1 h2 => absurd h2 (by omega)⟩
    | false =>
      rw [if_neg (by decide)]
      rcases lowV_ok f (j + 1) (by omega) with ⟨a, b⟩ | ⟨k, a1, a2, a3, a4, a5⟩
      · refine Or.inl ⟨a, fun k h1 h2 => ?_⟩
        rcases Nat.eq_or_lt_of_le h1 with rfl | q
        · exact e
        · exact b k q (by omega)
      · refine Or.inr ⟨k, by omega, by omega, a3, a4, fun i h1 h2 => ?_⟩
        rcases Nat.eq_or_lt_of_le h1 with rfl | q
        · exact e
        · exact a5 i q h2
theorem lowV_low {P : Nat → Bool} : isLow P (lowV P 0 48) := by
  rcases lowV_ok (P := P) 48 0 (by omega) with ⟨a, b⟩ | ⟨k, a1, a2, a3, a4, a5⟩
  · exact Or.inl ⟨a, fun k hk => b k (Nat.zero_le _) (by omega)⟩
  · exact Or.inr ⟨k, by omega, a3, a4, fun i hi => a5 i (Nat.zero_le _) hi⟩
/-- the script, and calls that read it -/
theorem rX_blind {av : List Value} {b L : Nat} {xs : Nat → Int32} : FrameBlind (va_Pc av (fun U => va_X b L xs U U.heap)) := fun a U g mk q => ⟨q.1, va_X.moved (u := U) (U := U.calling g mk a) (Vm.Alike.refl U.vm) q.2⟩
theorem ro_ofX {l : Launch} {y : MethodName} {ws ws' : List Cond} {rm : Room} {av : List Value} {b L : Nat} {xs : Nat → Int32} {post : Int32 → Prop} {cc : ByteArray} {maxL : Nat} {ret : Option FieldType} {own : String} (hy : plainName y.cls = true) (hown : y.cls = own) (hw : ws = Cond.code y cc maxL ret :: ws') (hav : (lg_sl av).length ≤ maxL)
    (body : ∀ p e s m args below meth c (ls : Array Slot), p.tables.exec = Jvm.exec → c.code = cc → meth.sig.returnType = ret → c.maxLocals = maxL → meth.locks = false → s.vm.findClass own = some m.cls → (∀ w ∈ ws, w.before args s = true) → va_X b L xs s s.heap → lv_has ls maxL (lv_args 0 av) →
      W p l e rm s m args below meth c s.heap [] 0 0 (MQ below (RO post) args s 0 0 nA) (F0 m 0 ls [])) : Met l y ws rm (va_Pc av (fun U => va_X b L xs U U.heap)) (RO post) 0 0 nA := by
  refine Met.ofW (cc := cc) (maxL := maxL) (ret := ret) hy hw ?_
  intro p e s m args below meth c s₁ B hml hv
  obtain ⟨rfl, hX⟩ := hv
  have hown2 : s.vm.findClass own = some m.cls := by rw [← hown]; exact findClass_of_methodNamed B.named
  have hl := lv_entry av (n := maxL) hav
  rw [lg_entry_eq]
  generalize (lg_sl av ++ List.replicate (maxL - (lg_sl av).length) Slot.unset).toArray = ls at hl ⊢
  exact body p e s m _ below meth c ls B.exec B.bytes B.returns hml B.notSynchronized hown2 (atoms_spec (ws := ws) B.pre) hX hl
section ROX
variable {p : Program} {l : Launch} {e : Env} {R : Room} {s : State} {m : MethodId} {args : Array Value} {below : List Frame} {meth : Method} {c : Code} {H : Heap} {locs : List Loc} {cells slots : Nat} {Q : State → Prop}
variable {y : MethodName} {bytes cc : ByteArray} {maxL nL n index pc : Nat} {ret : Option FieldType} {ws : List Cond} {rm : Room} {Ts : List Cond} {own : String} {As rest st0 : List Value} {ls : Array Slot} {A0 : Nat → Prop} {D : va_G} {w : va_W} {post : Int32 → Prop} {b L : Nat} {xs : Nat → Int32}
theorem ro_X (S : CallFix p m c cc nL s args Ts own) (hM : Met l y ws rm (va_Pc As (fun U => va_X b L xs U U.heap)) (RO post) 0 0 nA) (cw : CallB R s args own index y bytes maxL ret ws rm 0 0 n ∧ (Cond.static y).before args s = true) (hX : va_X b L xs s s.heap) (hbl : b < s.heap.size) (hbA : ¬ A0 b) (hP : va_P D vwCl w H) (hS : va_S A0 s.heap H locs) (hn : As.length = n) (hsize : ls.size = nL) (hst : st0 = As.reverse ++ rest) (hW : (rest.map fun v => v.category).sum ≤ 8) (hdg : decode cc pc = .ok (.invokestatic index, 3)) (hf : cells ≤ R.cells ∧ slots ≤ R.slots)
    (kk : ∀ (r : Int32) (H1 : Heap) (locs1 : List Loc), post r → va_P D vwCl w H1 → va_S A0 s.heap H1 locs1 → W p l e R s m args below meth c H1 locs1 cells slots Q (F0 m (pc + 3) ls (.int r :: rest))) : W p l e R s m args below meth c H locs cells slots Q (F0 m pc ls st0) := by
  refine va_calli (A1 := nA) (va_runS (As := As) (rest := rest) S hM cw ⟨rX_blind, fun U hU hW => ⟨rfl, (va_X.moved hW.alike hX).kept (by rw [hU]; exact hS.2.1 b hbl hbA)⟩⟩ rfl hn hsize hst (lv_room hW) hdg ⟨hf.1, hf.2⟩) hS (fun _ _ h => h.elim) (fun _ h => h.elim) (fun r u t H1 locs1 ht hvm hw hB hz hk hS1 => ?_)
  exact kk r H1 locs1 hw (hP.kept (fun k q hq => hk q.1 (hP k q hq).lt id)) hS1
end ROX

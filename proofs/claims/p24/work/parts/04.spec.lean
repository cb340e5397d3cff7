/-! what each method answers, in the words of the state (F: the rows, n: the count) -/
theorem xiald {p : Program} {l : Launch} {e : Env} {R : Room} {s : State} {m : MethodId} {args : Array Value} {below : List Frame} {meth : Method} {c : Code} {H : Heap} {locs : List Loc} {cells slots : Nat} {Q : State → Prop} {cc : ByteArray} {pc : Nat} {ls : Array Slot} {rest : List Value} {D : va_G} {cl : List vw_C} {a : Nat} {tys : List (ClassId × FieldType)} {ws : va_W}
    (hexec : p.tables.exec = Jvm.exec) (hb : c.code = cc) (hK : va_K D cl tys s) (hP : va_P D cl ws H) (q0 t0 : Nat) {cA : ClassId} {n : Nat} {f : Nat → Int32} (ha : ws[q0]? = some (a, .inl (cA, n, .inl f))) (ht : tys[t0]? = some (cA, .int)) {g : Nat} (hg : g < n) (hn : n < 2 ^ 31) (hdg : decode cc pc = .ok (.iaload, 1))
    (kk : W p l e R s m args below meth c H locs cells slots Q (F0 m (pc + 1) ls (.int (f g) :: rest))) : W p l e R s m args below meth c H locs cells slots Q (F0 m pc ls (.int (nI g) :: .ref a :: rest)) := by
  refine va_iald hexec hb hK hP q0 t0 ha ht (vp_in_nI hg hn) hdg ?_
  rw [nI_clamp (Nat.lt_trans hg hn)]
  exact kk
theorem xzald {p : Program} {l : Launch} {e : Env} {R : Room} {s : State} {m : MethodId} {args : Array Value} {below : List Frame} {meth : Method} {c : Code} {H : Heap} {locs : List Loc} {cells slots : Nat} {Q : State → Prop} {cc : ByteArray} {pc : Nat} {ls : Array Slot} {rest : List Value} {D : va_G} {cl : List vw_C} {a : Nat} {tys : List (ClassId × FieldType)} {ws : va_W}
    (hexec : p.tables.exec = Jvm.exec) (hb : c.code = cc) (hK : va_K D cl tys s) (hP : va_P D cl ws H) (q0 t0 : Nat) {cA : ClassId} {n : Nat} {f : Nat → Int32} (ha : ws[q0]? = some (a, .inl (cA, n, .inl f))) (ht : tys[t0]? = some (cA, .boolean)) {g : Nat} (hg : g < n) (hn : n < 2 ^ 31) (hdg : decode cc pc = .ok (.baload, 1))
    (kk : W p l e R s m args below meth c H locs cells slots Q (F0 m (pc + 1) ls (.int (f g) :: rest))) : W p l e R s m args below meth c H locs cells slots Q (F0 m pc ls (.int (nI g) :: .ref a :: rest)) := by
  refine va_zald hexec hb hK hP q0 t0 ha ht (vp_in_nI hg hn) hdg ?_
  rw [nI_clamp (Nat.lt_trans hg hn)]
  exact kk
theorem xiast {p : Program} {l : Launch} {e : Env} {R : Room} {s : State} {m : MethodId} {args : Array Value} {below : List Frame} {meth : Method} {c : Code} {H H0 : Heap} {locs : List Loc} {cells slots : Nat} {Q : State → Prop} {cc : ByteArray} {pc : Nat} {ls : Array Slot} {rest : List Value} {D : va_G} {cl : List vw_C} {A : Nat → Prop} {a : Nat} {tys : List (ClassId × FieldType)} {ws : va_W}
    (hexec : p.tables.exec = Jvm.exec) (hb : c.code = cc) (hK : va_K D cl tys s) (hP : va_P D cl ws H) (hD : va_D A ws) (hS : va_S A H0 H locs) (q0 t0 : Nat) {cA : ClassId} {n : Nat} {f : Nat → Int32} (ha : ws[q0]? = some (a, .inl (cA, n, .inl f))) (ht : tys[t0]? = some (cA, .int)) {g : Nat} {x : Int32} (hg : g < n) (hn : n < 2 ^ 31) (hdg : decode cc pc = .ok (.iastore, 1))
    (kk : ∀ (H1 : Heap) (locs1 : List Loc), va_P D cl (ws.set q0 (a, .inl (cA, n, .inl (upd f g x)))) H1 → va_D A (ws.set q0 (a, .inl (cA, n, .inl (upd f g x)))) → va_S A H0 H1 locs1 → W p l e R s m args below meth c H1 locs1 cells slots Q (F0 m (pc + 1) ls rest)) : W p l e R s m args below meth c H locs cells slots Q (F0 m pc ls (.int x :: .int (nI g) :: .ref a :: rest)) := by
  refine va_iast hexec hb hK hP hD hS q0 t0 ha ht (vp_in_nI hg hn) hdg ?_
  rw [nI_clamp (Nat.lt_trans hg hn)]
  exact kk
def okC (c : Int32) : Prop := c = -1 ∨ ∃ k, 1 ≤ k ∧ k ≤ 9 ∧ c = nI k
def okP (p : Int32) : Prop := p = -1 ∨ ∃ k, k < 48 ∧ p = nI k
def WF (F : Nat → Nat → Int32) (n : Nat) : Prop := n ≤ 16 ∧ (∀ g, g < n → okC (F 4 g) ∧ F 4 g ≠ -1) ∧ (∀ g, g < n → okC (F 5 g)) ∧ (∀ g, g < n → okP (F 7 g)) ∧ (∀ i, i < 100 → ∃ d, d ≤ 4 ∧ F 0 i = nI d) ∧ (∀ i, i < 20 → F 3 i = 0 ∨ F 3 i = 1)
theorem WF.n {F : Nat → Nat → Int32} {n : Nat} (h : WF F n) : n ≤ 16 := h.1
theorem WF.g {F : Nat → Nat → Int32} {n g : Nat} (h : WF F n) (hg : g < n) : g < 16 := Nat.lt_of_lt_of_le hg h.1
theorem okC.in {c : Int32} (h : okC c) (h1 : ¬ c = -1) : vp_in c 10 := by
  rcases h with h | ⟨k, h2, h3, rfl⟩
  · exact absurd h h1
  · exact vp_in_nI (by omega) (by decide)
theorem WF.c4 {F : Nat → Nat → Int32} {n g : Nat} (h : WF F n) (hg : g < n) : okC (F 4 g) := (h.2.1 g hg).1
theorem WF.c4n {F : Nat → Nat → Int32} {n g : Nat} (h : WF F n) (hg : g < n) : ¬ F 4 g = -1 := (h.2.1 g hg).2
theorem WF.c5 {F : Nat → Nat → Int32} {n g : Nat} (h : WF F n) (hg : g < n) : okC (F 5 g) := h.2.2.1 g hg
theorem WF.p7 {F : Nat → Nat → Int32} {n g : Nat} (h : WF F n) (hg : g < n) : okP (F 7 g) := h.2.2.2.1 g hg
theorem WF.t0 {F : Nat → Nat → Int32} {n i : Nat} (h : WF F n) (hi : i < 100) : ∃ d, d ≤ 4 ∧ F 0 i = nI d := h.2.2.2.2.1 i hi
theorem WF.b3 {F : Nat → Nat → Int32} {n i : Nat} (h : WF F n) (hi : i < 20) : F 3 i = 0 ∨ F 3 i = 1 := h.2.2.2.2.2 i hi
theorem nI_lit (k : Nat) : (OfNat.ofNat k : Int32) = nI k := rfl
theorem tab_ix {c d : Int32} (hc : okC c) (hd : okC d) (h1 : ¬ c = -1) (h2 : ¬ d = -1) : ∃ i, i < 100 ∧ c * 10 + d = nI i ∧ 10 * c + d = nI i := by
  rcases hc with h | ⟨a, a1, a2, rfl⟩
  · exact absurd h h1
  rcases hd with h | ⟨b, b1, b2, rfl⟩
  · exact absurd h h2
  refine ⟨a * 10 + b, by omega, ?_, ?_⟩
  · show nI a * nI 10 + nI b = _
    rw [pk_mul, nI_add]
  · show nI 10 * nI a + nI b = _
    rw [pk_mul, nI_add, Nat.mul_comm]
theorem tab_in {c d : Int32} (hc : okC c) (hd : okC d) (h1 : ¬ c = -1) (h2 : ¬ d = -1) : vp_in (c * 10 + d) 100 := by
  obtain ⟨i, h, e, -⟩ := tab_ix hc hd h1 h2
  rw [e]; exact vp_in_nI h (by decide)
theorem tab_in2 {c d : Int32} (hc : okC c) (hd : okC d) (h1 : ¬ c = -1) (h2 : ¬ d = -1) : vp_in (10 * c + d) 100 := by
  obtain ⟨i, h, -, e⟩ := tab_ix hc hd h1 h2
  rw [e]; exact vp_in_nI h (by decide)
theorem bar_ix {c d : Int32} (hc : okC c) (h1 : ¬ c = -1) (hd : d = 0 ∨ d = 1) : ∃ i, i < 20 ∧ c * 2 + d = nI i ∧ 2 * c + d = nI i := by
  rcases hc with h | ⟨a, a1, a2, rfl⟩
  · exact absurd h h1
  have key : ∀ b, b < 2 → ∃ i, i < 20 ∧ nI a * 2 + nI b = nI i ∧ 2 * nI a + nI b = nI i := by
    intro b hb
    refine ⟨a * 2 + b, by omega, ?_, ?_⟩
    · show nI a * nI 2 + nI b = _
      rw [pk_mul, nI_add]
    · show nI 2 * nI a + nI b = _
      rw [pk_mul, nI_add, Nat.mul_comm]
  rcases hd with rfl | rfl
  · exact key 0 (by decide)
  · exact key 1 (by decide)
theorem bar_in {c d : Int32} (hc : okC c) (h1 : ¬ c = -1) (hd : d = 0 ∨ d = 1) : vp_in (c * 2 + d) 20 := by
  obtain ⟨i, h, e, -⟩ := bar_ix hc h1 hd
  rw [e]; exact vp_in_nI h (by decide)
theorem bar_in2 {c d : Int32} (hc : okC c) (h1 : ¬ c = -1) (hd : d = 0 ∨ d = 1) : vp_in (2 * c + d) 20 := by
  obtain ⟨i, h, -, e⟩ := bar_ix hc h1 hd
  rw [e]; exact vp_in_nI h (by decide)
theorem deck_01 {p : Int32} (hp : okP p) (h1 : ¬ p = -1) : p - p / 2 * 2 = 0 ∨ p - p / 2 * 2 = 1 := by
  rcases hp with h | ⟨k, hk, rfl⟩
  · exact absurd h h1
  · have := pk_rem (a := k) (d := 2) (by omega) (by decide) (by decide)
    rw [show (2 : Int32) = nI 2 from rfl, this]
    rcases Nat.mod_two_eq_zero_or_one k with h | h <;> rw [h]
    · exact Or.inl rfl
    · exact Or.inr rfl
def iMax (x y : Int32) : Int32 := if x < y then y else x
def iAbs (x : Int32) : Int32 := if 0 ≤ x then x else 0 - x
def sHold (p : Int32) : Int32 := p / 12
def sBay (p : Int32) : Int32 := (p - p / 12 * 12) / 2
def sDeck (p : Int32) : Int32 := p - p / 2 * 2
def sDist (a b : Int32) : Int32 := if iAbs (sHold a - sHold b) < 2 then (if iAbs (sHold a - sHold b) = 1 then 3 else if 3 ≤ iAbs (sBay a - sBay b) then 2 else if iAbs (sBay a - sBay b) ≤ 0 then (if a = b then 0 else 1) else if sDeck a = sDeck b then (if a = b then 0 else 1) else 2) else 4
def sTab (F : Nat → Nat → Int32) (c d : Int32) : Int32 := if c = -1 then 0 else if d = -1 then 0 else F 0 (c * 10 + d).toNatClampNeg
def sGreat (F : Nat → Nat → Int32) (g h : Nat) : Int32 := iMax (iMax (sTab F (F 4 g) (F 4 h)) (sTab F (F 4 g) (F 5 h))) (iMax (sTab F (F 5 g) (F 4 h)) (sTab F (F 5 g) (F 5 h)))
def sWithin (F : Nat → Nat → Int32) (k g : Nat) : Bool := if F k (F 4 g).toNatClampNeg < F 6 g then false else if F 5 g = -1 then true else if F k (F 5 g).toNatClampNeg < F 6 g then false else true
def sExc (F : Nat → Nat → Int32) (g : Nat) : Bool := sWithin F 2 g
def sLim (F : Nat → Nat → Int32) (g : Nat) : Bool := !(sWithin F 2 g) && sWithin F 1 g
def sNeed (F : Nat → Nat → Int32) (g h : Nat) : Int32 := if sExc F g = true then 0 else if sExc F h = true then 0 else if sLim F g = true then iMax (sGreat F g h - 1) 0 else if sLim F h = true then iMax (sGreat F g h - 1) 0 else sGreat F g h
def sBreach (F : Nat → Nat → Int32) (g : Nat) (p : Int32) (h : Nat) : Bool := if p = -1 then false else if F 7 h = -1 then false else decide (sDist p (F 7 h) < sNeed F g h)
/-- the set of the first k with a property, as a number -/
def bs (P : Nat → Bool) : Nat → Nat
  | 0 => 0
  | k + 1 => bs P k + (if P k = true then 2 ^ k else 0)
def sAt (F : Nat → Nat → Int32) (n g : Nat) (p : Int32) : Nat := bs (fun k => if k = g then false else sBreach F g p k) n
def sBarred (F : Nat → Nat → Int32) (c d : Int32) : Bool := if c = -1 then false else !(decide (F 3 (c * 2 + d).toNatClampNeg = 0))
def sMis (F : Nat → Nat → Int32) (g : Nat) (p : Int32) : Bool := if p = -1 then false else if sExc F g = true then false else sBarred F (F 4 g) (sDeck p) || sBarred F (F 5 g) (sDeck p)
def sClean (F : Nat → Nat → Int32) (n g : Nat) (p : Int32) : Bool := if sMis F g p = true then false else if nI (sAt F n g p) = 0 then true else false
theorem nI_lt_of {k n : Nat} (h : ¬ nI n ≤ nI k) (hk : k < 2 ^ 31) : k < n := by
  rcases Nat.lt_or_ge k n with q | q
  · exact q
  · exact absurd (nI_le q hk) h
theorem nI_ge_of {k n : Nat} (h : nI n ≤ nI k) (hk : k < 2 ^ 31) (hn : n < 2 ^ 31) : n ≤ k := (nI_leI hn hk).mp h
theorem bs_lt (P : Nat → Bool) : ∀ k, bs P k < 2 ^ k
  | 0 => Nat.zero_lt_one
  | k + 1 => by
    have h := bs_lt P k
    have e : 2 ^ (k + 1) = 2 ^ k + 2 ^ k := by rw [Nat.pow_succ]; omega
    unfold bs
    split <;> omega
theorem sh_1 : ∀ k, k < 31 → (1 : Int32) <<< (nI k &&& 31) = nI (2 ^ k) := by decide +kernel
theorem or_hi {a k : Nat} (h : a < 2 ^ k) : a ||| 2 ^ k = a + 2 ^ k := by
  have := Nat.two_pow_add_eq_or_of_lt h 1
  rw [Nat.mul_one] at this
  rw [Nat.or_comm, ← this, Nat.add_comm]
theorem nI_or (a b : Nat) : nI a ||| nI b = nI (a ||| b) := by
  apply Int32.toBitVec_inj.1
  show BitVec.ofNat 32 a ||| BitVec.ofNat 32 b = BitVec.ofNat 32 (a ||| b)
  apply BitVec.eq_of_getLsbD_eq
  intro i hi
  simp [hi]
theorem bs_t {P : Nat → Bool} {k : Nat} (hk : k < 16) (h : P k = true) : nI (bs P k) ||| ((1 : Int32) <<< (nI k &&& 31)) = nI (bs P (k + 1)) := by
  rw [sh_1 k (by omega), nI_or, or_hi (bs_lt P k)]
  show _ = nI (bs P k + if P k = true then 2 ^ k else 0)
  rw [if_pos h]
theorem bs_f {P : Nat → Bool} {k : Nat} (h : P k = false) : nI (bs P k) = nI (bs P (k + 1)) := by
  show _ = nI (bs P k + if P k = true then 2 ^ k else 0)
  rw [h]; rfl
theorem bs_z {P : Nat → Bool} {k : Nat} (h : P k = false) : nI (bs P k) ||| 0 = nI (bs P (k + 1)) := by
  rw [show (0 : Int32) = nI 0 from rfl, nI_or, Nat.or_zero, bs_f h]
/-! the reference's own shapes -/
def mIn (v lo hi : Int32) : Bool := if v < lo then false else if hi < v then false else true
def mB (p : Int32) : Int32 := p / 2 - p / 2 / 6 * 6
def mFar (a b : Int32) : Int32 := if 0 ≤ mB a - mB b then mB a - mB b else -(mB a - mB b)
def mIsFar (a b : Int32) : Bool := if 2 < mFar a b then true else if mFar a b ≤ 0 then false else if sDeck a = sDeck b then false else true
def mApart (a b : Int32) : Int32 := if 1 < a / 12 - b / 12 then 4 else if -1 ≤ a / 12 - b / 12 then (if a / 12 - b / 12 = 0 then (if mIsFar a b = true then 2 else if a = b then 0 else 1) else 3) else 4
def mTab (F : Nat → Nat → Int32) (c d : Int32) : Int32 := if c = -1 then 0 else if d = -1 then 0 else F 0 (10 * c + d).toNatClampNeg
def mGt (a b : Int32) : Int32 := if a ≤ b then b else a
def mGreat (F : Nat → Nat → Int32) (g h : Nat) : Int32 := mGt (mGt (mTab F (F 4 g) (F 4 h)) (mTab F (F 4 g) (F 5 h))) (mGt (mTab F (F 5 g) (F 4 h)) (mTab F (F 5 g) (F 5 h)))
def mNeed (F : Nat → Nat → Int32) (g h : Nat) : Int32 := if sExc F g = true then 0 else if sExc F h = true then 0 else if mGreat F g h ≤ 0 then mGreat F g h else if sLim F g = true then mGreat F g h - 1 else if sLim F h = true then mGreat F g h - 1 else mGreat F g h
def mFoe (F : Nat → Nat → Int32) (g h : Nat) (p : Int32) : Bool := if g = h then false else if F 7 h = -1 then false else decide (mApart p (F 7 h) < mNeed F g h)
def mBar2 (F : Nat → Nat → Int32) (g : Nat) (p : Int32) : Bool := if F 3 (2 * F 4 g + sDeck p).toNatClampNeg = 0 then (if F 5 g = -1 then false else if F 3 (2 * F 5 g + sDeck p).toNatClampNeg = 0 then false else true) else true
def mWrong (F : Nat → Nat → Int32) (g : Nat) (p : Int32) : Bool := if mBar2 F g p = true then (if sExc F g = true then false else true) else false
def mFoes (F : Nat → Nat → Int32) (n g : Nat) : Nat := bs (fun h => if F 7 g = -1 then false else mFoe F g h (F 7 g)) n
def mWrongs (F : Nat → Nat → Int32) (n : Nat) : Nat := bs (fun g => if F 7 g = -1 then false else mWrong F g (F 7 g)) n

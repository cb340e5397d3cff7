/-! counting bits; the search for the goods that leave, as a function of numbers -/
def us (x y : Int32) : Int32 := (x.toUInt32 >>> (y.toUInt32 &&& Int32.toUInt32 31)).toInt32
def bc1 (x : Int32) : Int32 := x - (us x 1 &&& 1431655765)
def bc2 (x : Int32) : Int32 := (x &&& 858993459) + (us x 2 &&& 858993459)
def bc3 (x : Int32) : Int32 := (x + us x 4) &&& 252645135
def bc4 (x : Int32) : Int32 := x + us x 8
def bc5 (x : Int32) : Int32 := x + us x 16
def bcI (x : Int32) : Int32 := bc5 (bc4 (bc3 (bc2 (bc1 x)))) &&& 63
def bn1 (x : Nat) : Nat := x - (x / 2 &&& 1431655765)
def bn2 (x : Nat) : Nat := (x &&& 858993459) + (x / 4 &&& 858993459)
def bn3 (x : Nat) : Nat := (x + x / 16) &&& 252645135
def bn4 (x : Nat) : Nat := x + x / 256
def bn5 (x : Nat) : Nat := x + x / 65536
def bnI (x : Nat) : Nat := bn5 (bn4 (bn3 (bn2 (bn1 x)))) &&& 63
/-- the number of ones of x, of its f lowest bits -/
def pcF : Nat → Nat → Nat
  | 0, _ => 0
  | f + 1, x => x % 2 + pcF f (x / 2)
def pcn (x : Nat) : Nat := pcF 16 x
def pcE (x : Nat) : Nat := x % 2 + x / 2 % 2 + x / 4 % 2 + x / 8 % 2 + x / 16 % 2 + x / 32 % 2 + x / 64 % 2 + x / 128 % 2 + x / 256 % 2 + x / 512 % 2 + x / 1024 % 2 + x / 2048 % 2 + x / 4096 % 2 + x / 8192 % 2 + x / 16384 % 2 + x / 32768 % 2
theorem pcE_eq (x : Nat) : pcn x = pcE x := by
  simp only [pcn, pcF, pcE, Nat.div_div_eq_div_mul, Nat.add_zero, Nat.add_assoc]
/-- the rows of 256 numbers, from a on -/
def rowsB (a c : Nat) : Bool := allB (fun i => allB (fun b => Nat.beq (bnI ((a + i) * 256 + b)) (pcE ((a + i) * 256 + b))) 256) c
theorem allB_at {P : Nat → Bool} : ∀ {n : Nat}, allB P n = true → ∀ k, k < n → P k = true
  | 0, _, k, h => absurd h (Nat.not_lt_zero _)
  | n + 1, hh, k, h => by
    have h1 : allB P n = true := by
      cases e : allB P n with
      | true => rfl
      | false => simp [allB, e] at hh
    have h2 : P n = true := by simpa [allB, h1] using hh
    rcases Nat.lt_or_ge k n with q | q
    · exact allB_at h1 k q
    · have : k = n := by omega
      subst this; exact h2
theorem bn_r0 : rowsB 0 16 = true := by decide +kernel
theorem bn_r1 : rowsB 16 16 = true := by decide +kernel
theorem bn_r2 : rowsB 32 16 = true := by decide +kernel
theorem bn_r3 : rowsB 48 16 = true := by decide +kernel
theorem bn_r4 : rowsB 64 16 = true := by decide +kernel
theorem bn_r5 : rowsB 80 16 = true := by decide +kernel
theorem bn_r6 : rowsB 96 16 = true := by decide +kernel
theorem bn_r7 : rowsB 112 16 = true := by decide +kernel
theorem bn_r8 : rowsB 128 16 = true := by decide +kernel
theorem bn_r9 : rowsB 144 16 = true := by decide +kernel
theorem bn_r10 : rowsB 160 16 = true := by decide +kernel
theorem bn_r11 : rowsB 176 16 = true := by decide +kernel
theorem bn_r12 : rowsB 192 16 = true := by decide +kernel
theorem bn_r13 : rowsB 208 16 = true := by decide +kernel
theorem bn_r14 : rowsB 224 16 = true := by decide +kernel
theorem bn_r15 : rowsB 240 16 = true := by decide +kernel
theorem bn_rows (j : Nat) (hj : j < 16) : rowsB (16 * j) 16 = true := by
  rcases (show j = 0 ∨ j = 1 ∨ j = 2 ∨ j = 3 ∨ j = 4 ∨ j = 5 ∨ j = 6 ∨ j = 7 ∨ j = 8 ∨ j = 9 ∨ j = 10 ∨ j = 11 ∨ j = 12 ∨ j = 13 ∨ j = 14 ∨ j = 15 by omega) with rfl | rfl | rfl | rfl | rfl | rfl | rfl | rfl | rfl | rfl | rfl | rfl | rfl | rfl | rfl | rfl
  · exact bn_r0
  · exact bn_r1
  · exact bn_r2
  · exact bn_r3
  · exact bn_r4
  · exact bn_r5
  · exact bn_r6
  · exact bn_r7
  · exact bn_r8
  · exact bn_r9
  · exact bn_r10
  · exact bn_r11
  · exact bn_r12
  · exact bn_r13
  · exact bn_r14
  · exact bn_r15
theorem bn_pc {x : Nat} (h : x < 65536) : bnI x = pcn x := by
  have h0 := bn_rows (x / 256 / 16) (by omega)
  have h1 := allB_at h0 (x / 256 % 16) (by omega)
  have h2 := allB_at h1 (x % 256) (by omega)
  have e : (16 * (x / 256 / 16) + x / 256 % 16) * 256 + x % 256 = x := by omega
  rw [e] at h2
  rw [pcE_eq]
  exact Nat.eq_of_beq_eq_true h2
theorem nI_and (a b : Nat) : nI a &&& nI b = nI (a &&& b) := by
  apply Int32.toBitVec_inj.1
  show BitVec.ofNat 32 a &&& BitVec.ofNat 32 b = BitVec.ofNat 32 (a &&& b)
  apply BitVec.eq_of_getLsbD_eq
  intro i hi
  simp [hi]
theorem us_n {x : Nat} (h : x < 2 ^ 32) (s : Int32) (k : Nat) (hs : ((s.toUInt32 &&& Int32.toUInt32 31).toBitVec % 32).toNat = k) : us (nI x) s = nI (x / 2 ^ k) := pk_ushrN h s k hs
theorem bc1_n {x : Nat} (h : x < 2 ^ 20) : bc1 (nI x) = nI (bn1 x) := by
  unfold bc1 bn1
  rw [us_n (by omega) 1 1 (by decide), show (1431655765 : Int32) = nI 1431655765 from rfl, nI_and, pk_sub]
  exact Nat.le_trans Nat.and_le_left (Nat.div_le_self _ _)
theorem bn1_lt {x : Nat} (h : x < 2 ^ 20) : bn1 x < 2 ^ 20 := Nat.lt_of_le_of_lt (Nat.sub_le _ _) h
theorem bc2_n {x : Nat} (h : x < 2 ^ 20) : bc2 (nI x) = nI (bn2 x) := by
  unfold bc2 bn2
  rw [us_n (by omega) 2 2 (by decide), show (858993459 : Int32) = nI 858993459 from rfl, nI_and, nI_and, nI_add]
theorem bn2_lt {x : Nat} (h : x < 2 ^ 20) : bn2 x < 2 ^ 21 := by
  have h1 : x &&& 858993459 ≤ x := Nat.and_le_left
  have h2 : x / 4 &&& 858993459 ≤ x / 4 := Nat.and_le_left
  unfold bn2; omega
theorem bc3_n {x : Nat} (h : x < 2 ^ 21) : bc3 (nI x) = nI (bn3 x) := by
  unfold bc3 bn3
  rw [us_n (by omega) 4 4 (by decide), show (252645135 : Int32) = nI 252645135 from rfl, nI_add, nI_and]
theorem bn3_lt {x : Nat} (h : x < 2 ^ 21) : bn3 x < 2 ^ 22 := by
  have h1 : (x + x / 16) &&& 252645135 ≤ x + x / 16 := Nat.and_le_left
  unfold bn3; omega
theorem bc4_n {x : Nat} (h : x < 2 ^ 22) : bc4 (nI x) = nI (bn4 x) := by
  unfold bc4 bn4
  rw [us_n (by omega) 8 8 (by decide), nI_add]
theorem bn4_lt {x : Nat} (h : x < 2 ^ 22) : bn4 x < 2 ^ 23 := by unfold bn4; omega
theorem bc5_n {x : Nat} (h : x < 2 ^ 23) : bc5 (nI x) = nI (bn5 x) := by
  unfold bc5 bn5
  rw [us_n (by omega) 16 16 (by decide), nI_add]
theorem bcI_n {x : Nat} (h : x < 65536) : bcI (nI x) = nI (pcn x) := by
  have h0 : x < 2 ^ 20 := by omega
  unfold bcI
  rw [bc1_n h0, bc2_n (bn1_lt h0), bc3_n (bn2_lt (bn1_lt h0)), bc4_n (bn3_lt (bn2_lt (bn1_lt h0))), bc5_n (bn4_lt (bn3_lt (bn2_lt (bn1_lt h0)))), show (63 : Int32) = nI 63 from rfl, nI_and, ← bn_pc h]
  rfl
theorem pcF_le : ∀ f x, pcF f x ≤ f
  | 0, _ => Nat.le_refl _
  | f + 1, x => by have := pcF_le f (x / 2); unfold pcF; omega
theorem pcn_le (x : Nat) : pcn x ≤ 16 := pcF_le 16 x
/-- the class's search -/
def srch (rows : Nat → Nat) : Nat → Nat → Nat → Nat
  | 0, lv, best => if pcn lv < pcn best then lv else best
  | k + 1, lv, best => if pcn lv < pcn best then (if lv &&& 2 ^ k = 0 then (if rows k &&& (65535 ^^^ lv) = 0 then srch rows k (lv ||| rows k) best else srch rows k (lv ||| 2 ^ k) (srch rows k (lv ||| rows k) best)) else srch rows k lv best) else best
theorem or_16 {a b : Nat} (ha : a < 65536) (hb : b < 65536) : a ||| b < 65536 := Nat.or_lt_two_pow (n := 16) ha hb
theorem srch_lt {rows : Nat → Nat} : ∀ (k lv best : Nat), (∀ j, j < k → rows j < 65536) → k ≤ 16 → lv < 65536 → best < 65536 → srch rows k lv best < 65536
  | 0, lv, best, _, _, h1, h2 => by unfold srch; split <;> assumption
  | k + 1, lv, best, hr, hk, h1, h2 => by
    have h3 : 2 ^ k < 65536 := Nat.pow_lt_pow_right (a := 2) (by decide) (show k < 16 by omega)
    have hr2 : ∀ j, j < k → rows j < 65536 := fun j hj => hr j (Nat.lt_succ_of_lt hj)
    have ha := srch_lt k (lv ||| rows k) best hr2 (by omega) (or_16 h1 (hr k (Nat.lt_succ_self k))) h2
    unfold srch
    split
    · split
      · split
        · exact ha
        · exact srch_lt k _ _ hr2 (by omega) (or_16 h1 h3) ha
      · exact srch_lt k _ _ hr2 (by omega) h1 h2
    · exact h2
def gI : Nat → Int32
  | 0 => -1
  | k + 1 => nI k
theorem gI_pred (k : Nat) : nI k - 1 = gI k := by
  cases k with
  | zero => rfl
  | succ k => exact nI_pred k
theorem sh_16 (k : Nat) (hk : k < 16) : (1 : Int32) <<< (nI k &&& 31) = nI (2 ^ k) := sh_1 k (by omega)
theorem xor_m1 {a : Nat} (h : a < 65536) : ∀ b : Nat, b < 65536 → (nI b &&& (nI a ^^^ (-1)) = 0 ↔ b &&& (65535 ^^^ a) = 0) := by
  intro b hb
  have e : nI b &&& (nI a ^^^ (-1)) = nI (b &&& (65535 ^^^ a)) := by
    rw [← nI_and]
    apply Int32.toBitVec_inj.1
    show BitVec.ofNat 32 b &&& (BitVec.ofNat 32 a ^^^ BitVec.allOnes 32) = BitVec.ofNat 32 b &&& BitVec.ofNat 32 (65535 ^^^ a)
    apply BitVec.eq_of_getLsbD_eq
    intro i hi
    simp only [BitVec.getLsbD_and, BitVec.getLsbD_xor, BitVec.getLsbD_ofNat, BitVec.getLsbD_allOnes, hi, decide_true, Bool.true_and, Nat.testBit_xor]
    rcases Nat.lt_or_ge i 16 with q | q
    · have : Nat.testBit 65535 i = true := by
        have := Nat.testBit_two_pow_sub_one 16 i
        simpa [q] using this
      rw [this, Bool.xor_comm]
    · have h1 : Nat.testBit b i = false := Nat.testBit_lt_two_pow (Nat.lt_of_lt_of_le hb (Nat.pow_le_pow_right (n := 2) (by decide) q))
      rw [h1]; rfl
  rw [e]
  have hlt : b &&& (65535 ^^^ a) < 2 ^ 31 := Nat.lt_of_le_of_lt Nat.and_le_left (by omega)
  exact nI_eq (b := 0) hlt (by decide)
theorem bs_16 {P : Nat → Bool} {k : Nat} (h : k ≤ 16) : bs P k < 65536 := Nat.lt_of_lt_of_le (bs_lt P k) (Nat.pow_le_pow_right (n := 2) (by decide) h)
theorem rw_s {Rv : Nat → Int32} {k : Nat} {f : Nat → Nat} (h : ∀ j, j < k → Rv j = nI (f j)) : ∀ j, j < k + 1 → upd Rv k (nI (f k)) j = nI (f j) := by
  intro j hj
  by_cases e : j = k
  · subst e; exact pk_us
  · rw [pk_un e]; exact h j (by omega)
def sLeast (F : Nat → Nat → Int32) (n : Nat) : Nat := srch (fun j => sAt F n j (F 7 j)) n (bs (fun k => sMis F k (F 7 k)) n) (bs (fun k => if F 7 k = -1 then false else true) n)
theorem sLeast_lt {F : Nat → Nat → Int32} {n : Nat} (h : n ≤ 16) : sLeast F n < 65536 := srch_lt n _ _ (fun _ _ => bs_16 h) h (bs_16 h) (bs_16 h)

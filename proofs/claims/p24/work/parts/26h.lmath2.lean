/-! the plan while some are taken off and put back -/
theorem pv_s {Pv : Nat → Int32} {f : Nat → Int32} {k : Nat} (h : ∀ j, j < k → Pv j = f j) : ∀ j, j < k + 1 → upd Pv k (f k) j = f j := by
  intro j hj
  rw [upd_c]
  by_cases e : j = k
  · rw [if_pos e, e]
  · rw [if_neg e]; exact h j (by omega)
theorem few_f {F : Nat → Nat → Int32} {n : Nat} (hw : WF F n) (hs : SY F) (h : ¬ pcn (sLeast F n) = 0) : allB (fun k => sClean F n k (F 7 k)) n = false := tb_f (fun e => h ((few_0 hw hs).mpr e))
theorem okP_nn {p : Int32} (h : okP p) (h1 : ¬ p < 0) : mIn p 0 47 = true := (okP_put h).resolve_left (fun e => h1 (by rw [e]; decide))
theorem okP_ge {p : Int32} (h : okP p) (k : p < -1) : False := by
  rcases h with rfl | ⟨j, hj, rfl⟩
  · exact absurd k (by decide)
  · exact nI_pos (n := j) (by omega) (Int32.lt_of_lt_of_le k (by decide))
theorem okP_lt {p : Int32} (h : okP p) (k : 48 ≤ p) : False := by
  rcases h with rfl | ⟨j, hj, rfl⟩
  · exact absurd k (by decide)
  · have := nl_ge (k := j) (n := 48) k (by omega) (by decide); omega
theorem ge_one {S : Nat} (h : ¬ S = 0) (h2 : S < 65536) (k : nI S < 1) : False := by
  have := nt_lt (k := S) (n := 1) k (by omega) (by decide); omega
def f2 (F : Nat → Nat → Int32) (n k : Nat) : Nat → Nat → Int32 := fG F (fun j => decide (j < k) && (sLeast F n).testBit j)
def f4 (F : Nat → Nat → Int32) (n k : Nat) : Nat → Nat → Int32 := fG F (fun j => decide (k ≤ j) && (sLeast F n).testBit j)
theorem wf_f2 {F : Nat → Nat → Int32} {n k : Nat} (hw : WF F n) : WF (f2 F n k) n := wf_fG hw
theorem wf_f4 {F : Nat → Nat → Int32} {n k : Nat} (hw : WF F n) : WF (f4 F n k) n := wf_fG hw
theorem f2_0 {F : Nat → Nat → Int32} {n : Nat} : F = f2 F n 0 := (fG_no (fun j => by simp)).symm
theorem f2_n {F : Nat → Nat → Int32} {n : Nat} (hw : WF F n) (hs : SY F) : f2 F n n = fL F n := fG_ext (fun j => by
  cases e : (sLeast F n).testBit j with
  | false => simp
  | true => simp [(sL_n hw hs e).1])
theorem f2_skip {F : Nat → Nat → Int32} {n k : Nat} (h : (sLeast F n).testBit k = false) : f2 F n k = f2 F n (k + 1) := fG_ext (fun j => by
  by_cases e : j = k
  · subst e; simp [h]
  · have : (j < k + 1) = (j < k) := by apply propext; omega
    simp [this])
theorem f2_put {F : Nat → Nat → Int32} {n k : Nat} (h : (sLeast F n).testBit k = true) : fP (f2 F n k) k (-1) = f2 F n (k + 1) := by
  unfold f2
  apply fG_fP
  intro j
  by_cases e : j = k
  · subst e; simp [h]
  · have : (j < k + 1) = (j < k) := by apply propext; omega
    simp [this, e]
theorem f2_7 {F : Nat → Nat → Int32} {n k : Nat} : f2 F n k 7 k = F 7 k := by unfold f2; rw [fG_7]; simp
theorem fL_7 {F : Nat → Nat → Int32} {n k : Nat} (h : (sLeast F n).testBit k = true) : fL F n 7 k = -1 := by unfold fL; rw [fG_7, h]; rfl
theorem fK_7 {F : Nat → Nat → Int32} {n k : Nat} : fK F n k 7 k = F 7 k := by unfold fK; rw [fG_7]; simp
theorem f4_0 {F : Nat → Nat → Int32} {n : Nat} : fL F n = f4 F n 0 := fG_ext (fun j => by simp)
theorem f4_n {F : Nat → Nat → Int32} {n : Nat} (hw : WF F n) (hs : SY F) : f4 F n n = F := fG_no (fun j => by
  cases e : (sLeast F n).testBit j with
  | false => simp
  | true => have := (sL_n hw hs e).1; have h2 : ¬ n ≤ j := by omega
            simp [h2])
theorem f4_skip {F : Nat → Nat → Int32} {n k : Nat} (h : (sLeast F n).testBit k = false) : f4 F n k = f4 F n (k + 1) := fG_ext (fun j => by
  by_cases e : j = k
  · subst e; simp [h]
  · have : (k + 1 ≤ j) = (k ≤ j) := by apply propext; omega
    simp [this])
theorem f4_put {F : Nat → Nat → Int32} {n k : Nat} : fP (f4 F n k) k (F 7 k) = f4 F n (k + 1) := by
  unfold f4
  apply fG_fP
  intro j
  by_cases e : j = k
  · subst e
    have : ¬ j + 1 ≤ j := by omega
    simp [this]
  · have : (k + 1 ≤ j) = (k ≤ j) := by apply propext; omega
    simp [this, e]
theorem f4_7 {F : Nat → Nat → Int32} {n k : Nat} (h : (sLeast F n).testBit k = true) : f4 F n k 7 k = -1 := by unfold f4; rw [fG_7, h]; simp
/-! what the law counts -/
def qS (F : Nat → Nat → Int32) (k j : Nat) : Bool := if j = k then false else sBreach F k (F 7 k) j
def cR (F : Nat → Nat → Int32) (k : Nat) : Nat → Nat := sm (fun i => if qS F k i = true then 1 else 0)
def cB (F : Nat → Nat → Int32) (n : Nat) : Nat → Nat := sm (fun a => cR F a n)
def cM (F : Nat → Nat → Int32) : Nat → Nat := sm (fun k => if sMis F k (F 7 k) = true then 1 else 0)
theorem sm_le {f : Nat → Nat} {b : Nat} (h : ∀ k, f k ≤ b) : ∀ m, sm f m ≤ m * b
  | 0 => Nat.zero_le _
  | m + 1 => by
    have := sm_le h m
    have h2 := h m
    show sm f m + f m ≤ (m + 1) * b
    rw [Nat.succ_mul]; omega
theorem sm_01 (P : Nat → Bool) (m : Nat) : sm (fun k => if P k = true then 1 else 0) m ≤ m := by
  have := sm_le (f := fun k => if P k = true then 1 else 0) (b := 1) (fun k => by split <;> omega) m
  omega
theorem cM_le (F : Nat → Nat → Int32) (k : Nat) : cM F k ≤ k := sm_01 _ k
theorem cR_le (F : Nat → Nat → Int32) (a k : Nat) : cR F a k ≤ k := sm_01 _ k
theorem cB_le {F : Nat → Nat → Int32} {n k : Nat} (hn : n ≤ 16) (hk : k ≤ 16) : cB F n k ≤ 256 := by
  have h1 := sm_le (f := fun a => cR F a n) (b := n) (fun a => cR_le F a n) k
  have h2 : k * n ≤ 16 * 16 := Nat.mul_le_mul hk hn
  show sm (fun a => cR F a n) k ≤ 256
  omega
theorem sm_0 {f : Nat → Nat} : ∀ {m : Nat}, sm f m = 0 → ∀ k, k < m → f k = 0
  | 0, _, k, hk => absurd hk (Nat.not_lt_zero _)
  | m + 1, h, k, hk => by
    have h : sm f m + f m = 0 := h
    rcases Nat.lt_or_ge k m with q | q
    · exact sm_0 (by omega) k q
    · rw [show k = m by omega]; omega
theorem qS_qB {F : Nat → Nat → Int32} {n i j : Nat} (hw : WF F n) (hi : i < n) (hj : j < n) : qS F i j = qB F i j := by
  unfold qS
  by_cases e : j = i
  · rw [if_pos e, e, qB_self]
  · rw [if_neg e, qB_br hw hi hj (fun q => e q.symm)]
theorem sum_two {F : Nat → Nat → Int32} {n : Nat} (hw : WF F n) (hs : SY F) : cB F n n = 2 * cO F n n := by
  have h2 := sm_two (b := bB F n) (N := n) (fun i j hi hj => by rw [bB_eq hi hj, bB_eq hj hi, qB_sym hw hs hi hj]) (fun i hi => by rw [bB_eq hi hi, qB_self]; rfl) n (Nat.le_refl _)
  rw [cOu_sm hw n (Nat.le_refl _), ← h2]
  apply sm_cong
  intro a ha
  apply sm_cong
  intro j hj
  rw [bB_eq ha hj, qS_qB hw ha hj]
theorem mis_w {F : Nat → Nat → Int32} {n g : Nat} (hw : WF F n) (hg : g < n) : sMis F g (F 7 g) = wB9 F g := mis7_eq hw hg
theorem cl_sum {F : Nat → Nat → Int32} {n : Nat} (hw : WF F n) : cB F n n + cM F n = 0 ↔ allB (fun k => sClean F n k (F 7 k)) n = true := by
  rw [clean_q hw, cl_zero]
  constructor
  · intro h
    have hb : cB F n n = 0 := by omega
    have hm : cM F n = 0 := by omega
    constructor
    · intro g hg
      have h1 := sm_0 hm g hg
      rw [← mis_w hw hg]
      cases e : sMis F g (F 7 g) with
      | false => rfl
      | true => rw [e] at h1; exact absurd h1 (by decide)
    · intro g hg j hj
      have h1 : cR F g n = 0 := sm_0 hb g hg
      have h2 := sm_0 h1 j hj
      rw [← qS_qB hw hg hj]
      cases e : qS F g j with
      | false => rfl
      | true => rw [e] at h2; exact absurd h2 (by decide)
  · rintro ⟨h1, h2⟩
    have hb : cB F n n = 0 := by
      apply sm_zero
      intro a ha
      apply sm_zero
      intro j hj
      rw [qS_qB hw ha hj, h2 a ha j hj]; rfl
    have hm : cM F n = 0 := by
      apply sm_zero
      intro a ha
      rw [mis_w hw ha, h1 a ha]; rfl
    omega
/-! barred, as the law reads it -/
def brd (F : Nat → Nat → Int32) (k : Nat) (p : Int32) : Bool := if p = -1 then false else sBarred F (F 4 k) (sDeck p) || sBarred F (F 5 k) (sDeck p)
theorem mis_brd {F : Nat → Nat → Int32} {k : Nat} {p : Int32} : sMis F k p = (brd F k p && !(sExc F k)) := by
  unfold sMis brd
  by_cases h : p = -1
  · simp [h]
  · rw [if_neg h, if_neg h]
    cases sExc F k <;> simp
theorem sbar_n {F : Nat → Nat → Int32} {c pl : Nat} (hc : c ≤ 9) (hp : pl < 48) : sBarred F (nI c) (sDeck (nI pl)) = !(decide (F 3 (c * 2 + pl % 2) = 0)) := by
  unfold sBarred sDeck
  rw [if_neg (nI_ne_m1 (by omega)), rem_2 (by omega), show (2 : Int32) = nI 2 from rfl, pk_mul, nI_add, nI_clamp (by omega)]
theorem sbar_1 {F : Nat → Nat → Int32} {c pl : Nat} (hc : c ≤ 9) (hp : pl < 48) (h : F 3 (c * 2 + pl % 2) = 1) : sBarred F (nI c) (sDeck (nI pl)) = true := by
  rw [sbar_n hc hp, h]; rfl
theorem sbar_0 {F : Nat → Nat → Int32} {n c pl : Nat} (hw : WF F n) (hc : c ≤ 9) (hp : pl < 48) (h : ¬ F 3 (c * 2 + pl % 2) = 1) : sBarred F (nI c) (sDeck (nI pl)) = false := by
  have h0 : F 3 (c * 2 + pl % 2) = 0 := (hw.b3 (i := c * 2 + pl % 2) (by omega)).resolve_right h
  rw [sbar_n hc hp, h0]; rfl
theorem brd_a {F : Nat → Nat → Int32} {k : Nat} (hp : F 7 k = -1) : 0 = bi (brd F k (F 7 k)) := by
  unfold brd; rw [if_pos hp]; rfl
theorem brd_p {F : Nat → Nat → Int32} {k c pl : Nat} (ec : F 4 k = nI c) (hp : pl < 48) (ep : F 7 k = nI pl) : brd F k (F 7 k) = (sBarred F (nI c) (sDeck (nI pl)) || sBarred F (F 5 k) (sDeck (nI pl))) := by
  unfold brd; rw [ep, if_neg (nI_ne_m1 (by omega)), ec]
theorem brd_b {F : Nat → Nat → Int32} {k c pl : Nat} (ec : F 4 k = nI c) (hc : c ≤ 9) (hp : pl < 48) (ep : F 7 k = nI pl) (h : F 3 (c * 2 + pl % 2) = 1) : 1 = bi (brd F k (F 7 k)) := by
  rw [brd_p ec hp ep, sbar_1 hc hp h]; rfl
theorem brd_c {F : Nat → Nat → Int32} {n k c pl : Nat} (hw : WF F n) (ec : F 4 k = nI c) (hc : c ≤ 9) (hp : pl < 48) (ep : F 7 k = nI pl) (h : ¬ F 3 (c * 2 + pl % 2) = 1) (e5 : F 5 k = -1) : 0 = bi (brd F k (F 7 k)) := by
  rw [brd_p ec hp ep, sbar_0 hw hc hp h, e5]; rfl
theorem brd_d {F : Nat → Nat → Int32} {n k c d pl : Nat} (hw : WF F n) (ec : F 4 k = nI c) (hc : c ≤ 9) (hp : pl < 48) (ep : F 7 k = nI pl) (h : ¬ F 3 (c * 2 + pl % 2) = 1) (e5 : F 5 k = nI d) (hd : d ≤ 9) (h2 : F 3 (d * 2 + pl % 2) = 1) : 1 = bi (brd F k (F 7 k)) := by
  rw [brd_p ec hp ep, sbar_0 hw hc hp h, e5, sbar_1 hd hp h2]; rfl
theorem brd_e {F : Nat → Nat → Int32} {n k c d pl : Nat} (hw : WF F n) (ec : F 4 k = nI c) (hc : c ≤ 9) (hp : pl < 48) (ep : F 7 k = nI pl) (h : ¬ F 3 (c * 2 + pl % 2) = 1) (e5 : F 5 k = nI d) (hd : d ≤ 9) (h2 : ¬ F 3 (d * 2 + pl % 2) = 1) : 0 = bi (brd F k (F 7 k)) := by
  rw [brd_p ec hp ep, sbar_0 hw hc hp h, e5, sbar_0 hw hd hp h2]; rfl
theorem gs_le {F : Nat → Nat → Int32} {n k : Nat} (hw : WF F n) (hk : k < n) (h : gs F k ≤ 0) : F 5 k = -1 := by
  by_cases e : gs F k = 0
  · exact gs_0 hw hk e
  · obtain ⟨c, h1, h2, e5, eg⟩ := gs_n hw hk e
    rw [eg] at h
    exact absurd h (nI_nle (by omega) (by omega))
theorem lim_0 {F : Nat → Nat → Int32} {k : Nat} (h : sExc F k = true) : 0 = bi (sLim F k) := by
  unfold sLim; rw [show sWithin F 2 k = true from h]; rfl
theorem lim_1 {F : Nat → Nat → Int32} {k : Nat} (h : sExc F k = false) : bi (sWithin F 1 k) = bi (sLim F k) := by
  unfold sLim; rw [show sWithin F 2 k = false from h]; rfl
theorem mis_0 {F : Nat → Nat → Int32} {k : Nat} {p : Int32} (h : brd F k p = false) : 0 = bi (sMis F k p) := by rw [mis_brd, h]; rfl
theorem mis_1 {F : Nat → Nat → Int32} {k : Nat} {p : Int32} (h : brd F k p = true) : bi (!(sExc F k)) = bi (sMis F k p) := by rw [mis_brd, h]; rfl
theorem at_bit {F : Nat → Nat → Int32} {n k j : Nat} {p : Int32} (hn : n ≤ 16) (hj : j < n) : (nI (sAt F n k p) >>> (nI j &&& 31)) &&& 1 = bi (if j = k then false else sBreach F k p j) := by
  unfold sAt
  rw [bit_bi (bs_16 hn) (by omega), bs_bit, decide_eq_true hj, Bool.true_and]
theorem at_self {F : Nat → Nat → Int32} {n k : Nat} {p : Int32} (hn : n ≤ 16) (hk : k < n) : (nI (sAt F n k p) >>> (nI k &&& 31)) &&& 1 = 0 := by
  rw [at_bit hn hk, if_pos rfl]; rfl
theorem qs_1 {F : Nat → Nat → Int32} {k j : Nat} (h : j = k) : 0 = bi (qS F k j) := by unfold qS; rw [if_pos h]; rfl
theorem qs_0 {F : Nat → Nat → Int32} {k j : Nat} (h : sBreach F k (F 7 k) j = false) : 0 = bi (qS F k j) := by
  unfold qS
  by_cases e : j = k
  · rw [if_pos e]; rfl
  · rw [if_neg e, h]; rfl
theorem qs_2 {F : Nat → Nat → Int32} {k j : Nat} (hp : okP (F 7 k)) (h : F 7 k < 0) : 0 = bi (qS F k j) := qs_0 (by unfold sBreach; rw [if_pos ((okP_neg hp).mp h)])
theorem qs_3 {F : Nat → Nat → Int32} {k j : Nat} (hp : okP (F 7 j)) (h : F 7 j < 0) : 0 = bi (qS F k j) := qs_0 (by
  unfold sBreach
  by_cases e : F 7 k = -1
  · rw [if_pos e]
  · rw [if_neg e, if_pos ((okP_neg hp).mp h)])
theorem qs_v {F : Nat → Nat → Int32} {k j : Nat} (hj : okP (F 7 j)) (hk : okP (F 7 k)) (h1 : ¬ F 7 k < 0) (h2 : ¬ F 7 j < 0) : sBreach F k (F 7 k) j = decide (sDist (F 7 k) (F 7 j) < sNeed F k j) := by
  unfold sBreach
  rw [if_neg (fun e => h1 ((okP_neg hk).mpr e)), if_neg (fun e => h2 ((okP_neg hj).mpr e))]
theorem qs_4 {F : Nat → Nat → Int32} {k j : Nat} (hj : okP (F 7 j)) (hk : okP (F 7 k)) (h1 : ¬ F 7 k < 0) (h2 : ¬ F 7 j < 0) (h : sNeed F k j ≤ sDist (F 7 k) (F 7 j)) : 0 = bi (qS F k j) := qs_0 (by
  rw [qs_v hj hk h1 h2]
  exact decide_eq_false (Int32.not_lt.mpr h))
theorem qs_5 {F : Nat → Nat → Int32} {k j : Nat} (hj : okP (F 7 j)) (hk : okP (F 7 k)) (hne : ¬ j = k) (h1 : ¬ F 7 k < 0) (h2 : ¬ F 7 j < 0) (h : ¬ sNeed F k j ≤ sDist (F 7 k) (F 7 j)) : 1 = bi (qS F k j) := by
  unfold qS
  rw [if_neg hne, qs_v hj hk h1 h2, decide_eq_true (Int32.not_le.mp h)]; rfl
theorem shr_at {F : Nat → Nat → Int32} {n k : Nat} {p : Int32} (hn : n ≤ 16) : nI (sAt F n k p) >>> (nI n &&& 31) = 0 := shr_0 (bs_lt _ n) (by omega)

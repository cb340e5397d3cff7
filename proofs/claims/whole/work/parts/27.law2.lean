/-! THE CLAIM OUT OF ONE WALK OF THE LAW'S BODY. Your part is whole_start (and what it stands on); all else here is the same for every law, but numbers. -/
def R_law : String := "DangerousGoodsLaw"
def lw_P (b : Addr) (xs : List Int32) (args : Array Value) (s : State) : Prop := args = #[.ref b] ∧ s.IntsAt b xs ∧ xs.length ≤ 2048 ∧ (Jvm.Cond.and given_1 narrow_1).before args s = true
def lw_Q (_ : Array Value) (s : State) (o : Outcome) (t : State) : Prop := o = .returned (some (.int 1)) ∧ Framed s o t [] 647008 7155079
def lw_Z (below : List Frame) (a : Array Value) (s : State) : State → Prop := fun t => ∃ o, t.status = .running ∧ Ended t below o ∧ lw_Q a s o t
/-- the law's own end, with 1 on the stack, nothing written that was there before, its room as the claim has it -/
theorem lw_ret {p : Program} {l : Launch} {e : Env} {s : State} {m : MethodId} {below : List Frame} {meth : Method} {c : Code} {b : Nat} (hx : p.tables.exec = Jvm.exec) (hb : c.code = code) (hr : meth.sig.returnType = ret) (hlocks : meth.locks = false) {pc : Nat} {H : Heap} {ls : Array Slot} (hdg : decode code pc = .ok (.ireturn, 1)) : W p l e room_1 s m #[Value.ref b] below meth c H [] 647008 7155079 (lw_Z below #[Value.ref b] s) (F0 m pc ls [.int 1]) := by
  intro T hT X
  obtain ⟨fs, hret, hrun, hended, hW, hframe⟩ := X.leave (v := some (.int 1)) (hlocks := hlocks) (fun h => by rw [hr] at h; cases h)
  have hmeth' : T.vm.method? m = some meth := X.method'
  refine ⟨T.setFrames fs, ?_, .returned (some (.int 1)), hrun, hended, rfl, ⟨_, rfl⟩, hW, hframe⟩
  jvm_step X.here [X.here.top, hx, hb, hdg, hmeth', hr, ret, narrow_b1]
  (try refine ⟨rfl, ?_⟩); (try refine ⟨rfl, ?_⟩)
  first | (intro acts; rw [hret _ acts rfl rfl rfl]) | rw [hret _ _ rfl rfl rfl]
  exact Steps.refl _
/-- what holds at the law's entry: the machine, the code, the tables' words (any of lw_tbl by 'hts w (by decide +kernel)'), the script of L ints xs at the cell b, what the Statement gives of the start (any of its parts by flat_of_before) -/
def lw_At (p : Program) (s : State) (m : MethodId) (meth : Method) (c : Code) (b L : Nat) (xs : Nat → Int32) : Prop :=
  p.tables.exec = Jvm.exec ∧ c.code = code ∧ meth.sig.returnType = ret ∧ c.maxLocals = 7 ∧ s.vm.findClass R_law = some m.cls ∧ (∀ w ∈ lw_tbl, w.before #[Value.ref b] s = true) ∧ va_X b L xs s s.heap ∧ b < s.heap.size ∧ meth.locks = false ∧ (Jvm.Cond.and given_1 narrow_1).before #[Value.ref b] s = true
/-! the law's body: its world, its calls -/
abbrev wAll (qx : Nat → Nat) (F : Nat → Nat → Int32) (n : Nat) (Rx : Nat → Int32) (qo : Nat) (o : Nat → Int64) (qm : Nat → Nat) (Fm : Nat → Nat → Int32) (nm : Nat) (Rm : Nat → Int32) (th : Int32) (cI cZ cL : ClassId) : va_W := wXo qx F (nI n) Rx qo o cI cZ cL ++ wM qm Fm (nI nm) Rm th cI cZ
abbrev aL (s : State) : Nat → Prop := fun q : Nat => s.heap.size ≤ q
theorem tB_law {s U : State} {H : Heap} {locs : List Loc} (h : tB s) (hS : va_S (aL s) s.heap H locs) (hU : U.heap = H) (hW : s.WarmedH U.vm) : tB U := by
  obtain ⟨h0, ⟨a1, h1⟩, ⟨a2, h2⟩, ⟨a3, h3⟩, ⟨a4, h4⟩, ⟨a5, h5⟩, h6, h7⟩ := h
  exact ⟨bW_warm hW h0, ⟨a1, h1.warm hW⟩, ⟨a2, h2.warm hW⟩, ⟨a3, h3.warm hW⟩, ⟨a4, h4.warm hW⟩, ⟨a5, h5.warm hW⟩, by rw [hU]; exact (h6.moved hW.alike).kept (fun a h1 h2 => hS.2.1 a h1 (Nat.not_le.mpr h1)), by rw [hU]; exact (h7.moved hW.alike).kept (fun a h1 h2 => hS.2.1 a h1 (Nat.not_le.mpr h1))⟩
theorem nC_warm {s U : State} (h : nC s) (hW : s.WarmedH U.vm) : nC U := ⟨va_Nc.moved hW.alike h.1, va_Nc.moved hW.alike h.2⟩
section LSC
variable {p : Program} {l : Launch} {e : Env} {R : Room} {s : State} {m : MethodId} {args : Array Value} {below : List Frame} {meth : Method} {c : Code} {H : Heap} {locs : List Loc} {cells slots : Nat} {Q : State → Prop}
variable {y : MethodName} {bytes cc : ByteArray} {maxL nL n index pc mc ms : Nat} {ret : Option FieldType} {ws : List Cond} {rm : Room} {Ts : List Cond} {own C : String} {b : Addr} {As rest st0 : List Value} {ls : Array Slot} {D : va_G} {w wc wr : va_W} {tysc : List (ClassId × FieldType)} {hh : List (Nat × Nat × Nat × Nat)}
/-- a call of one of the law's own methods -/
theorem l_S {S : Type} {post : Int32 → S → Prop} {w' : S → va_W} (S9 : CallFix p m c cc nL s args Ts own) (hM : Met l y ws rm (va_Pc As (lS D wc tysc H.size)) (va_Qi post (wB D (va_A wc H.size) w') (va_A wc H.size)) mc ms (va_A wc H.size)) (cw : vx_CSW R s args own index y bytes maxL ret hh ws rm mc ms n) (hn9 : nC s) (ht : tB s) (hKc : va_K D vwCl tysc s) (hP : va_P D vwCl w H) (hD : va_D (aL s) w) (isC isR : List Nat) (hC : isC.map (fun i => w[i]?) = wc.map some) (hCf : isC.filterMap (fun i => w[i]?) = wc) (hnC : va_nd isC = true) (hR : isR.map (fun i => w[i]?) = wr.map some) (hnR : va_nd isR = true) (hdis : ∀ i ∈ isR, i ∉ isC)
    (hS : va_S (aL s) s.heap H locs) (hn : As.length = n) (hsize : ls.size = nL) (hst : st0 = As.reverse ++ rest) (hW : (rest.map fun v => v.category).sum ≤ 8) (hdg : decode cc pc = .ok (.invokestatic index, 3)) (hf : cells + mc ≤ R.cells ∧ slots + ms ≤ R.slots)
    (kk : ∀ (r : Int32) (u : S) (H1 : Heap) (locs1 : List Loc), post r u → va_P D vwCl (wr ++ w' u) H1 → va_D (aL s) (wr ++ w' u) → va_S (aL s) s.heap H1 locs1 → W p l e R s m args below meth c H1 locs1 (cells + mc) (slots + ms) Q (F0 m (pc + 3) ls (.int r :: rest))) : W p l e R s m args below meth c H locs cells slots Q (F0 m pc ls st0) := by
  have hFc := va_free hD hS (fun q h => h) isC hC
  refine va_calli (A1 := va_A wc H.size) (vx_runSW (As := As) (rest := rest) S9 hM cw ⟨lS_blind, fun U hU hW => ⟨rfl, nC_warm hn9 hW, tB_law ht hS hU hW, by rw [hU], ⟨by rw [hU]; exact hP.sub isC hCf, hKc.moved hW.alike⟩, (hD.sub isC hnC hC).weaken (fun _ _ _ _ => trivial)⟩⟩ rfl hn hsize hst (lv_room hW) hdg hf) hS (fun q _ h => hFc q h) hFc (fun r u t H1 locs1 ht1 hvm hw hB hz hk hS1 => ?_)
  obtain ⟨hP1, hD1⟩ := hB
  rw [ht1] at hP1
  obtain ⟨hP2, hD2⟩ := va_join hP hD isC isR hC hR hnR hdis hk hFc hP1 hD1
  exact kk r u H1 locs1 hw hP2 hD2 hS1
theorem xsld {L : Nat} {xs : Nat → Int32} (hexec : p.tables.exec = Jvm.exec) (hb : c.code = cc) (hX : va_X b L xs s s.heap) (hbl : b < s.heap.size) (hbA : ¬ aL s b) (hS : va_S (aL s) s.heap H locs) {k : Nat} (hk : k < L) (hL : L < 2 ^ 31) (hdg : decode cc pc = .ok (.iaload, 1))
    (kk : W p l e R s m args below meth c H locs cells slots Q (F0 m (pc + 1) ls (.int (xs k) :: rest))) : W p l e R s m args below meth c H locs cells slots Q (F0 m pc ls (.int (nI k) :: .ref b :: rest)) := by
  refine va_sld hexec hb hX hbl hbA hS (vp_in_nI hk hL) hdg ?_
  rw [nI_clamp (Nat.lt_trans hk hL)]
  exact kk
end LSC
theorem lg_eq {x y : Int64} (h : x = y) : lg_cmp x y = 0 := by
  subst h
  unfold lg_cmp
  rw [if_neg (by rw [gt_iff_lt, Int64.lt_iff_toInt_lt]; omega), if_pos rfl]
theorem th1_m {n : Nat} {v : Int32} (h : th1 n v = 0) : mIn v 0 (nI n - 1) = true := th1_of (by rw [h]; decide)
theorem gi_1 {n : Nat} {v : Int32} (hn : n ≤ 16) (h : mIn v 0 (nI n - 1) = true) : gi v < n ∧ v = nI (gi v) := by
  obtain ⟨g, hg, rfl⟩ := (gd_iff hn).mp h
  rw [gi_nI (by omega)]
  exact ⟨hg, rfl⟩
theorem gi_th1 {n : Nat} {v : Int32} (hn : n ≤ 16) (h : th1 n v = 0) : gi v < n := (gi_1 hn (th1_m h)).1
theorem gi_th2 {n : Nat} {v w : Int32} (hn : n ≤ 16) (h : th2 n v w = 0) : gi v < n ∧ gi w < n ∧ ¬ gi v = gi w := by
  obtain ⟨h1, h2, h3⟩ := th2_of (n := n) (v := v) (w := w) (by rw [h]; decide)
  obtain ⟨a1, a2⟩ := gi_1 hn h1
  obtain ⟨b1, b2⟩ := gi_1 hn h2
  exact ⟨a1, b1, fun e => h3 (by rw [a2, b2, e])⟩
theorem thD_of {a b : Int32} (h : thD a b = 0) : sDist a b = mApart a b := by
  cases e : mIn a 0 47 with
  | false => simp [thD, e] at h
  | true => cases e2 : mIn b 0 47 with
    | false => simp [thD, e, e2] at h
    | true => exact dist_eqP (pl_okP e) (pl_okP e2) (pl_ne e) (pl_ne e2)
theorem thCP_of {F : Nat → Nat → Int32} {n : Nat} {v p : Int32} (hw : WF F n) (h : thCP n v p = 0) : sClean F n (gi v) p = mGood F n (gi v) p := by
  cases e : mIn v 0 (nI n - 1) with
  | false => simp [thCP, e] at h
  | true => cases e2 : mIn p 0 47 with
    | false => simp [thCP, e, e2] at h
    | true => exact good_eq hw (gi_1 hw.n e).1 (pl_okP e2) (pl_ne e2)
theorem l01_t {b : Bool} (h : b = true) : l01 b = 1 := by rw [h]; rfl
theorem l01_f {b : Bool} (h : b = false) : l01 b = 0 := by rw [h]; rfl
theorem lim_in {i L : Nat} (hL : L ≤ 2048) (hi : i ≤ 4096) (h : ¬ nI L - 4 < nI i) : i + 4 ≤ L := by
  rw [Int32.lt_iff_toInt_lt, show (4 : Int32) = nI 4 from rfl, pk_sub_toInt (by omega) (by omega), nI_toInt (by omega)] at h
  omega

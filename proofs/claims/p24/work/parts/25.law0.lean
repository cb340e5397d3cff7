/-! the law's own methods: each calls one method of the class and catches what it throws -/
/-- what the tables say of the classes of exceptions: none is another -/
def nC (U : State) : Prop := va_Nc eIS eIA U ∧ va_Nc eIA eIO U
def lS (D : va_G) (w : va_W) (tys : List (ClassId × FieldType)) (sz : Nat) (U : State) : Prop := nC U ∧ xS D w tys sz U
theorem lS_blind {av : List Value} {D : va_G} {w : va_W} {tys : List (ClassId × FieldType)} {sz : Nat} : FrameBlind (va_Pc av (lS D w tys sz)) := fun a U g mk q => ⟨q.1, ⟨va_Nc.moved (u := U) (U := U.calling g mk a) (Vm.Alike.refl U.vm) q.2.1.1, va_Nc.moved (u := U) (U := U.calling g mk a) (Vm.Alike.refl U.vm) q.2.1.2⟩, (xS_blind a U g mk ⟨q.1, q.2.2⟩).2⟩
abbrev tIZL (cI cZ cL : ClassId) : List (ClassId × FieldType) := [(cI, .int), (cZ, .boolean), (cL, .long)]
/-- the desk, and the law's row of one long -/
abbrev wXo (q : Nat → Nat) (F : Nat → Nat → Int32) (n : Int32) (R : Nat → Int32) (qo : Nat) (o : Nat → Int64) (cI cZ cL : ClassId) : va_W := wX q F n R cI cZ ++ [(qo, .inl (cL, 1, .inr (.inl o)))]
theorem l_of {l : Launch} {y : MethodName} {ws ws' : List Cond} {rm : Room} {av : List Value} {D : va_G} {w : va_W} {tys : List (ClassId × FieldType)} {S : Type} {post : Int32 → S → Prop} {w' : S → va_W} {mc ms sz : Nat} {cc : ByteArray} {maxL : Nat} {ret : Option FieldType} {hh : List (Nat × Nat × Nat × Nat)} {own : String} (hy : plainName y.cls = true) (hown : y.cls = own) (hw : ws = Cond.codeWith y cc maxL ret hh :: ws') (hav : (lg_sl av).length ≤ maxL)
    (body : ∀ p e s m args below meth c (ls : Array Slot) (A : Nat → Prop), p.tables.exec = Jvm.exec → c.code = cc → meth.sig.returnType = ret → c.maxLocals = maxL → meth.locks = false → s.vm.findClass own = some m.cls → (∀ w ∈ ws, w.before args s = true) → c.exceptionTable.toList = tableOf hh → tB s → nC s → va_P D vwCl w s.heap → va_K D vwCl tys s → va_D A w → (∀ q : Nat, s.heap.size ≤ q → A q) → lv_has ls maxL (lv_args 0 av) →
      W p l e rm s m args below meth c s.heap [] 0 0 (MQ below (va_Qi post (wB D A w') A) args s mc ms A) (F0 m 0 ls [])) : Met l y ws rm (va_Pc av (lS D w tys sz)) (va_Qi post (wB D (va_A w sz) w') (va_A w sz)) mc ms (va_A w sz) := by
  refine va_MetW (cc := cc) (maxL := maxL) (ret := ret) hy hw ?_
  intro p e s m args below meth c s₁ B hml hv
  obtain ⟨rfl, hn, ht, rfl, ⟨hP, hK⟩, hD⟩ := hv
  have hown2 : s.vm.findClass own = some m.cls := by rw [← hown]; exact findClass_of_methodNamed B.named
  have hl := lv_entry av (n := maxL) hav
  rw [lg_entry_eq]
  generalize (lg_sl av ++ List.replicate (maxL - (lg_sl av).length) Slot.unset).toArray = ls at hl ⊢
  have hts := atoms_spec (ws := ws) B.pre
  have htab := vx_table (x := y) B (hts _ (by rw [hw]; exact List.mem_cons_self))
  exact body p e s m _ below meth c ls (va_A w s.heap.size) B.exec B.bytes B.returns hml B.notSynchronized hown2 hts htab ht hn hP hK hD.self (fun q h => Or.inr h) hl
section LXC
variable {p : Program} {l : Launch} {e : Env} {R : Room} {s : State} {m : MethodId} {args : Array Value} {below : List Frame} {meth : Method} {c : Code} {H : Heap} {locs : List Loc} {cells slots : Nat} {Q : State → Prop}
variable {y : MethodName} {bytes cc : ByteArray} {maxL nL n index pc mc ms : Nat} {ret : Option FieldType} {ws : List Cond} {rm : Room} {Ts : List Cond} {own C : String} {b : Addr} {As rest st0 : List Value} {ls : Array Slot} {A0 : Nat → Prop} {D : va_G} {w wc wr : va_W} {tysc : List (ClassId × FieldType)} {xc : String → Prop}
/-- a call that answers or throws, and only reads -/
theorem tx_Vi {post : Int32 → Prop} (S : CallFix p m c cc nL s args Ts own) (hM : vx_Met l y ws rm (va_Pc (.ref b :: As) (tW D wc tysc)) (RO post) (XB xc) mc ms nA) (cw : CallW R s args own C index y bytes maxL ret ws rm mc ms n) (ht : tB s) (hKc : va_K D vwCl tysc s) (hP : va_P D vwCl w H) (hPc : va_P D vwCl wc H) (hr : ∃ cell : Cell, H[b]? = some cell ∧ cell.vm.isStatics = false ∧ s.vm.findClass C = some cell.cls) (hS : va_S nA s.heap H locs) (hn : As.length = n) (hsize : ls.size = nL) (hst : st0 = As.reverse ++ .ref b :: rest) (hW : (rest.map fun v => v.category).sum ≤ 8) (hdg : decode cc pc = .ok (.invokevirtual index, 3)) (hf : cells + mc ≤ R.cells ∧ slots + ms ≤ R.slots)
    (kx : ∀ (E : String) (ce : Cell) (q9 : Addr) (H1 : Heap) (locs1 : List Loc), xc E → va_P D vwCl w H1 → va_S nA s.heap H1 locs1 → H1[q9]? = some ce → ce.vm = .none → s.vm.findClass E = some ce.cls → vx_W p l e R s m args below meth c H1 locs1 (cells + mc) (slots + ms) Q (F0 m pc ls rest) q9)
    (kk : ∀ (r : Int32) (H1 : Heap) (locs1 : List Loc), post r → va_P D vwCl w H1 → va_S nA s.heap H1 locs1 → W p l e R s m args below meth c H1 locs1 (cells + mc) (slots + ms) Q (F0 m (pc + 3) ls (.int r :: rest))) : W p l e R s m args below meth c H locs cells slots Q (F0 m pc ls st0) := by
  refine vx_calli (A1 := nA) (AX := nA) (vx_runV (As := As) (rest := rest) S hM cw ⟨tW_blind, hr, fun U hU hW => ⟨rfl, tB_warm ht hS hU hW, by rw [hU]; exact hPc, hKc.moved hW.alike⟩⟩ rfl hn hsize hst (lv_room hW) hdg hf) hS (fun _ _ h => h.elim) (fun _ h => h.elim) (fun _ _ h => h.elim) (fun E ce q9 u t H1 locs1 ht1 hvm hp hB hz hk hS1 hce hcv hcl => ?_) (fun r u t H1 locs1 ht1 hvm hw hB hz hk hS1 => ?_)
  · exact kx E ce q9 H1 locs1 hB (hP.kept (fun k q hq => hk q.1 (hP k q hq).lt id)) hS1 hce hcv hcl
  · exact kk r H1 locs1 hw (hP.kept (fun k q hq => hk q.1 (hP k q hq).lt id)) hS1
/-- .. and writes -/
theorem wx_V {S : Type} {post : Int32 → S → Prop} {w' : S → va_W} (S9 : CallFix p m c cc nL s args Ts own) (hM : vx_Met l y ws rm (va_Pc (.ref b :: As) (xS D wc tysc H.size)) (va_Qi post (wB D (va_A wc H.size) w') (va_A wc H.size)) (XB xc) mc ms (va_A wc H.size)) (cw : CallW R s args own C index y bytes maxL ret ws rm mc ms n) (ht : tB s) (hKc : va_K D vwCl tysc s) (hP : va_P D vwCl w H) (hD : va_D A0 w) (hA : ∀ q : Nat, s.heap.size ≤ q → A0 q) (isC isR : List Nat) (hC : isC.map (fun i => w[i]?) = wc.map some) (hCf : isC.filterMap (fun i => w[i]?) = wc) (hnC : va_nd isC = true) (hR : isR.map (fun i => w[i]?) = wr.map some) (hnR : va_nd isR = true) (hdis : ∀ i ∈ isR, i ∉ isC)
    (hr : ∃ cell : Cell, H[b]? = some cell ∧ cell.vm.isStatics = false ∧ s.vm.findClass C = some cell.cls) (hS : va_S nA s.heap H locs) (hn : As.length = n) (hsize : ls.size = nL) (hst : st0 = As.reverse ++ .ref b :: rest) (hW : (rest.map fun v => v.category).sum ≤ 8) (hdg : decode cc pc = .ok (.invokevirtual index, 3)) (hf : cells + mc ≤ R.cells ∧ slots + ms ≤ R.slots)
    (kx : ∀ (E : String) (ce : Cell) (q9 : Addr) (H1 : Heap) (locs1 : List Loc), xc E → va_P D vwCl w H1 → va_S A0 s.heap H1 locs1 → H1[q9]? = some ce → ce.vm = .none → s.vm.findClass E = some ce.cls → vx_W p l e R s m args below meth c H1 locs1 (cells + mc) (slots + ms) Q (F0 m pc ls rest) q9)
    (kk : ∀ (r : Int32) (u : S) (H1 : Heap) (locs1 : List Loc), post r u → va_P D vwCl (wr ++ w' u) H1 → va_D A0 (wr ++ w' u) → va_S A0 s.heap H1 locs1 → W p l e R s m args below meth c H1 locs1 (cells + mc) (slots + ms) Q (F0 m (pc + 3) ls (.int r :: rest))) : W p l e R s m args below meth c H locs cells slots Q (F0 m pc ls st0) := by
  have hS2 := nA_S (A := A0) hS
  have hFc := va_free hD hS2 hA isC hC
  refine vx_calli (A1 := va_A wc H.size) (AX := nA) (vx_runV (As := As) (rest := rest) S9 hM cw ⟨xS_blind, hr, fun U hU hW => ⟨rfl, tB_warm ht hS hU hW, by rw [hU], ⟨by rw [hU]; exact hP.sub isC hCf, hKc.moved hW.alike⟩, (hD.sub isC hnC hC).weaken (fun _ _ _ _ => trivial)⟩⟩ rfl hn hsize hst (lv_room hW) hdg hf) hS2 (fun q _ h => hFc q h) hFc (fun _ _ h => h.elim) (fun E ce q9 u t H1 locs1 ht1 hvm hp hB hz hk hS1 hce hcv hcl => ?_) (fun r u t H1 locs1 ht1 hvm hw hB hz hk hS1 => ?_)
  · exact kx E ce q9 H1 locs1 hB (hP.kept (fun k q hq => hk q.1 (hP k q hq).lt id)) hS1 hce hcv hcl
  · obtain ⟨hP1, hD1⟩ := hB
    rw [ht1] at hP1
    obtain ⟨hP2, hD2⟩ := va_join hP hD isC isR hC hR hnR hdis hk hFc hP1 hD1
    exact kk r u H1 locs1 hw hP2 hD2 hS1
theorem wx_Vv {S : Type} {post : S → Prop} {w' : S → va_W} (S9 : CallFix p m c cc nL s args Ts own) (hM : vx_Met l y ws rm (va_Pc (.ref b :: As) (xS D wc tysc H.size)) (va_Qv post (wB D (va_A wc H.size) w') (va_A wc H.size)) (XB xc) mc ms (va_A wc H.size)) (cw : CallW R s args own C index y bytes maxL ret ws rm mc ms n) (ht : tB s) (hKc : va_K D vwCl tysc s) (hP : va_P D vwCl w H) (hD : va_D A0 w) (hA : ∀ q : Nat, s.heap.size ≤ q → A0 q) (isC isR : List Nat) (hC : isC.map (fun i => w[i]?) = wc.map some) (hCf : isC.filterMap (fun i => w[i]?) = wc) (hnC : va_nd isC = true) (hR : isR.map (fun i => w[i]?) = wr.map some) (hnR : va_nd isR = true) (hdis : ∀ i ∈ isR, i ∉ isC)
    (hr : ∃ cell : Cell, H[b]? = some cell ∧ cell.vm.isStatics = false ∧ s.vm.findClass C = some cell.cls) (hS : va_S nA s.heap H locs) (hn : As.length = n) (hsize : ls.size = nL) (hst : st0 = As.reverse ++ .ref b :: rest) (hW : (rest.map fun v => v.category).sum ≤ 8) (hdg : decode cc pc = .ok (.invokevirtual index, 3)) (hf : cells + mc ≤ R.cells ∧ slots + ms ≤ R.slots)
    (kx : ∀ (E : String) (ce : Cell) (q9 : Addr) (H1 : Heap) (locs1 : List Loc), xc E → va_P D vwCl w H1 → va_S A0 s.heap H1 locs1 → H1[q9]? = some ce → ce.vm = .none → s.vm.findClass E = some ce.cls → vx_W p l e R s m args below meth c H1 locs1 (cells + mc) (slots + ms) Q (F0 m pc ls rest) q9)
    (kk : ∀ (u : S) (H1 : Heap) (locs1 : List Loc), post u → va_P D vwCl (wr ++ w' u) H1 → va_D A0 (wr ++ w' u) → va_S A0 s.heap H1 locs1 → W p l e R s m args below meth c H1 locs1 (cells + mc) (slots + ms) Q (F0 m (pc + 3) ls rest)) : W p l e R s m args below meth c H locs cells slots Q (F0 m pc ls st0) := by
  have hS2 := nA_S (A := A0) hS
  have hFc := va_free hD hS2 hA isC hC
  refine vx_callv (A1 := va_A wc H.size) (AX := nA) (vx_runV (As := As) (rest := rest) S9 hM cw ⟨xS_blind, hr, fun U hU hW => ⟨rfl, tB_warm ht hS hU hW, by rw [hU], ⟨by rw [hU]; exact hP.sub isC hCf, hKc.moved hW.alike⟩, (hD.sub isC hnC hC).weaken (fun _ _ _ _ => trivial)⟩⟩ rfl hn hsize hst (lv_room hW) hdg hf) hS2 (fun q _ h => hFc q h) hFc (fun _ _ h => h.elim) (fun E ce q9 u t H1 locs1 ht1 hvm hp hB hz hk hS1 hce hcv hcl => ?_) (fun u t H1 locs1 ht1 hvm hw hB hz hk hS1 => ?_)
  · exact kx E ce q9 H1 locs1 hB (hP.kept (fun k q hq => hk q.1 (hP k q hq).lt id)) hS1 hce hcv hcl
  · obtain ⟨hP1, hD1⟩ := hB
    rw [ht1] at hP1
    obtain ⟨hP2, hD2⟩ := va_join hP hD isC isR hC hR hnR hdis hk hFc hP1 hD1
    exact kk u H1 locs1 hw hP2 hD2 hS1
end LXC
theorem bw_ia : Cond.castable eIA eIA ∈ bwL := by decide +kernel
theorem bw_is : Cond.castable eIS eIS ∈ bwL := by decide +kernel
theorem bw_io : Cond.castable eIO eIO ∈ bwL := by decide +kernel
def l01 (b : Bool) : Int64 := if b = true then 1 else 0
theorem in_01 : vp_in 0 1 := vp_in_nI (n := 0) (N := 1) (by decide) (by decide)

/-! the law's own methods: what they need of the start, entries, calls -/
def tBA (A : Nat → Prop) (U : State) : Prop := bW U ∧ (∃ a, vk_R RX0 116 "out of range" a U) ∧ (∃ a, vk_R RX0 69 "there are 16 goods already" a U) ∧ (∃ a, vk_R RX0 119 "the subsidiary class is the class itself" a U) ∧ (∃ a, vk_R RX0 123 "no such goods" a U) ∧ (∃ a, vk_R RX0 126 "both are the same goods" a U) ∧ vx_Zq Bundle.tN "UNASSIGNED_STACK" Bundle.steD A U U.heap ∧ vx_Zq Bundle.tN "SUPPRESSED_SENTINEL" Bundle.listD A U U.heap
theorem tBA.tB {A : Nat → Prop} {U : State} (h : tBA A U) : tB U := by
  obtain ⟨h0, h1, h2, h3, h4, h5, h6, h7⟩ := h
  exact ⟨h0, h1, h2, h3, h4, h5, h6.narrow (fun _ h => h.elim), h7.narrow (fun _ h => h.elim)⟩
theorem tBA_same {A : Nat → Prop} {u U : State} (hv : U.vm = u.vm) (hh : U.heap = u.heap) (h : tBA A u) : tBA A U := by
  obtain ⟨h0, ⟨a1, h1⟩, ⟨a2, h2⟩, ⟨a3, h3⟩, ⟨a4, h4⟩, ⟨a5, h5⟩, h6, h7⟩ := h
  have hal : u.vm.Alike U.vm := by rw [hv]; exact Vm.Alike.refl u.vm
  exact ⟨bW_same hv h0, ⟨a1, h1.same hv⟩, ⟨a2, h2.same hv⟩, ⟨a3, h3.same hv⟩, ⟨a4, h4.same hv⟩, ⟨a5, h5.same hv⟩, by rw [hh]; exact h6.moved hal, by rw [hh]; exact h7.moved hal⟩
theorem tBA_warm {A B : Nat → Prop} {s U : State} {H : Heap} {locs : List Loc} (h : tBA A s) (hS : va_S A s.heap H locs) (hU : U.heap = H) (hW : s.WarmedH U.vm) (hAB : ∀ q, B q → A q) : tBA B U := by
  obtain ⟨h0, ⟨a1, h1⟩, ⟨a2, h2⟩, ⟨a3, h3⟩, ⟨a4, h4⟩, ⟨a5, h5⟩, h6, h7⟩ := h
  exact ⟨bW_warm hW h0, ⟨a1, h1.warm hW⟩, ⟨a2, h2.warm hW⟩, ⟨a3, h3.warm hW⟩, ⟨a4, h4.warm hW⟩, ⟨a5, h5.warm hW⟩, by rw [hU]; exact ((h6.moved hW.alike).kept (fun a h1 h2 => hS.2.1 a h1 h2)).narrow hAB, by rw [hU]; exact ((h7.moved hW.alike).kept (fun a h1 h2 => hS.2.1 a h1 h2)).narrow hAB⟩
theorem nC_warm {s U : State} (h : nC s) (hW : s.WarmedH U.vm) : nC U := ⟨va_Nc.moved hW.alike h.1, va_Nc.moved hW.alike h.2⟩
def lA (D : va_G) (w : va_W) (tys : List (ClassId × FieldType)) (sz : Nat) (U : State) : Prop := nC U ∧ tBA (va_A w sz) U ∧ wS D w tys sz U
theorem lA_blind {av : List Value} {D : va_G} {w : va_W} {tys : List (ClassId × FieldType)} {sz : Nat} : FrameBlind (va_Pc av (lA D w tys sz)) := fun a U g mk q => ⟨q.1, ⟨va_Nc.moved (u := U) (U := U.calling g mk a) (Vm.Alike.refl U.vm) q.2.1.1, va_Nc.moved (u := U) (U := U.calling g mk a) (Vm.Alike.refl U.vm) q.2.1.2⟩, tBA_same (u := U) (U := U.calling g mk a) rfl rfl q.2.2.1, (wS_blind a U g mk ⟨q.1, q.2.2.2⟩).2⟩
theorem la_of {l : Launch} {y : MethodName} {ws ws' : List Cond} {rm : Room} {av : List Value} {D : va_G} {w : va_W} {tys : List (ClassId × FieldType)} {Qc : (Nat → Prop) → Array Value → State → Outcome → State → Prop} {mc ms sz : Nat} {cc : ByteArray} {maxL : Nat} {ret : Option FieldType} {hh : List (Nat × Nat × Nat × Nat)} {own : String} (hy : plainName y.cls = true) (hown : y.cls = own) (hw : ws = Cond.codeWith y cc maxL ret hh :: ws') (hav : (lg_sl av).length ≤ maxL)
    (body : ∀ p e s m args below meth c (ls : Array Slot) (A : Nat → Prop), p.tables.exec = Jvm.exec → c.code = cc → meth.sig.returnType = ret → c.maxLocals = maxL → meth.locks = false → s.vm.findClass own = some m.cls → (∀ w ∈ ws, w.before args s = true) → c.exceptionTable.toList = tableOf hh → tBA A s → nC s → va_P D vwCl w s.heap → va_K D vwCl tys s → va_D A w → (∀ q : Nat, s.heap.size ≤ q → A q) → lv_has ls maxL (lv_args 0 av) →
      W p l e rm s m args below meth c s.heap [] 0 0 (MQ below (Qc A) args s mc ms A) (F0 m 0 ls [])) : Met l y ws rm (va_Pc av (lA D w tys sz)) (Qc (va_A w sz)) mc ms (va_A w sz) := by
  refine va_MetW (cc := cc) (maxL := maxL) (ret := ret) hy hw ?_
  intro p e s m args below meth c s₁ B hml hv
  obtain ⟨rfl, hn, ht, rfl, ⟨hP, hK⟩, hD⟩ := hv
  have hown2 : s.vm.findClass own = some m.cls := by rw [← hown]; exact findClass_of_methodNamed B.named
  have hl := lv_entry av (n := maxL) hav
  rw [lg_entry_eq]
  generalize (lg_sl av ++ List.replicate (maxL - (lg_sl av).length) Slot.unset).toArray = ls at hl ⊢
  have hts := atoms_spec (ws := ws) B.pre
  have htab := vx_table (x := y) B (hts _ (by rw [hw]; exact List.mem_cons_self))
  exact body p e s m _ below meth c ls (va_A w s.heap.size) B.exec B.bytes B.returns hml B.notSynchronized hown2 hts htab ht hn hP hK hD.self (fun q h => Or.inr h) hl
theorem lc_of {l : Launch} {y : MethodName} {ws ws' : List Cond} {rm : Room} {av : List Value} {D : va_G} {w : va_W} {tys : List (ClassId × FieldType)} {Qc : (Nat → Prop) → Array Value → State → Outcome → State → Prop} {mc ms sz : Nat} {cc : ByteArray} {maxL : Nat} {ret : Option FieldType} {own : String} (hy : plainName y.cls = true) (hown : y.cls = own) (hw : ws = Cond.code y cc maxL ret :: ws') (hav : (lg_sl av).length ≤ maxL)
    (body : ∀ p e s m args below meth c (ls : Array Slot) (A : Nat → Prop), p.tables.exec = Jvm.exec → c.code = cc → meth.sig.returnType = ret → c.maxLocals = maxL → meth.locks = false → s.vm.findClass own = some m.cls → (∀ w ∈ ws, w.before args s = true) → tBA A s → nC s → va_P D vwCl w s.heap → va_K D vwCl tys s → va_D A w → (∀ q : Nat, s.heap.size ≤ q → A q) → lv_has ls maxL (lv_args 0 av) →
      W p l e rm s m args below meth c s.heap [] 0 0 (MQ below (Qc A) args s mc ms A) (F0 m 0 ls [])) : Met l y ws rm (va_Pc av (lA D w tys sz)) (Qc (va_A w sz)) mc ms (va_A w sz) := by
  refine Met.ofW (cc := cc) (maxL := maxL) (ret := ret) hy hw ?_
  intro p e s m args below meth c s₁ B hml hv
  obtain ⟨rfl, hn, ht, rfl, ⟨hP, hK⟩, hD⟩ := hv
  have hown2 : s.vm.findClass own = some m.cls := by rw [← hown]; exact findClass_of_methodNamed B.named
  have hl := lv_entry av (n := maxL) hav
  rw [lg_entry_eq]
  generalize (lg_sl av ++ List.replicate (maxL - (lg_sl av).length) Slot.unset).toArray = ls at hl ⊢
  have hts := atoms_spec (ws := ws) B.pre
  exact body p e s m _ below meth c ls (va_A w s.heap.size) B.exec B.bytes B.returns hml B.notSynchronized hown2 hts ht hn hP hK hD.self (fun q h => Or.inr h) hl
section LAC
variable {p : Program} {l : Launch} {e : Env} {R : Room} {s : State} {m : MethodId} {args : Array Value} {below : List Frame} {meth : Method} {c : Code} {H H0 : Heap} {locs : List Loc} {cells slots : Nat} {Q : State → Prop}
variable {y : MethodName} {bytes cc : ByteArray} {maxL nL n index pc mc ms : Nat} {ret : Option FieldType} {ws : List Cond} {rm : Room} {Ts : List Cond} {own C : String} {b : Addr} {As rest st0 : List Value} {ls : Array Slot} {A0 : Nat → Prop} {D : va_G} {w wc wr : va_W} {tysc : List (ClassId × FieldType)} {hh : List (Nat × Nat × Nat × Nat)}
theorem la_SW {S : Type} {post : Int32 → S → Prop} {w' : S → va_W} (S9 : CallFix p m c cc nL s args Ts own) (hM : Met l y ws rm (va_Pc As (lA D wc tysc H.size)) (va_Qi post (wB D (va_A wc H.size) w') (va_A wc H.size)) mc ms (va_A wc H.size)) (cw : vx_CSW R s args own index y bytes maxL ret hh ws rm mc ms n) (hn9 : nC s) (htA : tBA A0 s) (hKc : va_K D vwCl tysc s) (hP : va_P D vwCl w H) (hD : va_D A0 w) (hA : ∀ q : Nat, s.heap.size ≤ q → A0 q) (isC isR : List Nat) (hC : isC.map (fun i => w[i]?) = wc.map some) (hCf : isC.filterMap (fun i => w[i]?) = wc) (hnC : va_nd isC = true) (hR : isR.map (fun i => w[i]?) = wr.map some) (hnR : va_nd isR = true) (hdis : ∀ i ∈ isR, i ∉ isC)
    (hS : va_S A0 s.heap H locs) (hn : As.length = n) (hsize : ls.size = nL) (hst : st0 = As.reverse ++ rest) (hW : (rest.map fun v => v.category).sum ≤ 8) (hdg : decode cc pc = .ok (.invokestatic index, 3)) (hf : cells + mc ≤ R.cells ∧ slots + ms ≤ R.slots)
    (kk : ∀ (r : Int32) (u : S) (H1 : Heap) (locs1 : List Loc), post r u → va_P D vwCl (wr ++ w' u) H1 → va_D A0 (wr ++ w' u) → va_S A0 s.heap H1 locs1 → W p l e R s m args below meth c H1 locs1 (cells + mc) (slots + ms) Q (F0 m (pc + 3) ls (.int r :: rest))) : W p l e R s m args below meth c H locs cells slots Q (F0 m pc ls st0) := by
  have hFc := va_free hD hS hA isC hC
  refine va_calli (A1 := va_A wc H.size) (vx_runSW (As := As) (rest := rest) S9 hM cw ⟨lA_blind, fun U hU hW => ⟨rfl, nC_warm hn9 hW, tBA_warm htA hS hU hW hFc, by rw [hU], ⟨by rw [hU]; exact hP.sub isC hCf, hKc.moved hW.alike⟩, (hD.sub isC hnC hC).weaken (fun _ _ _ _ => trivial)⟩⟩ rfl hn hsize hst (lv_room hW) hdg hf) hS (fun q _ h => hFc q h) hFc (fun r u t H1 locs1 ht1 hvm hw hB hz hk hS1 => ?_)
  obtain ⟨hP1, hD1⟩ := hB
  rw [ht1] at hP1
  obtain ⟨hP2, hD2⟩ := va_join hP hD isC isR hC hR hnR hdis hk hFc hP1 hD1
  exact kk r u H1 locs1 hw hP2 hD2 hS1
theorem la_S {S : Type} {post : Int32 → S → Prop} {w' : S → va_W} (S9 : CallFix p m c cc nL s args Ts own) (hM : Met l y ws rm (va_Pc As (lA D wc tysc H.size)) (va_Qi post (wB D (va_A wc H.size) w') (va_A wc H.size)) mc ms (va_A wc H.size)) (cw : CallB R s args own index y bytes maxL ret ws rm mc ms n ∧ (Cond.static y).before args s = true) (hn9 : nC s) (htA : tBA A0 s) (hKc : va_K D vwCl tysc s) (hP : va_P D vwCl w H) (hD : va_D A0 w) (hA : ∀ q : Nat, s.heap.size ≤ q → A0 q) (isC isR : List Nat) (hC : isC.map (fun i => w[i]?) = wc.map some) (hCf : isC.filterMap (fun i => w[i]?) = wc) (hnC : va_nd isC = true) (hR : isR.map (fun i => w[i]?) = wr.map some) (hnR : va_nd isR = true) (hdis : ∀ i ∈ isR, i ∉ isC)
    (hS : va_S A0 s.heap H locs) (hn : As.length = n) (hsize : ls.size = nL) (hst : st0 = As.reverse ++ rest) (hW : (rest.map fun v => v.category).sum ≤ 8) (hdg : decode cc pc = .ok (.invokestatic index, 3)) (hf : cells + mc ≤ R.cells ∧ slots + ms ≤ R.slots)
    (kk : ∀ (r : Int32) (u : S) (H1 : Heap) (locs1 : List Loc), post r u → va_P D vwCl (wr ++ w' u) H1 → va_D A0 (wr ++ w' u) → va_S A0 s.heap H1 locs1 → W p l e R s m args below meth c H1 locs1 (cells + mc) (slots + ms) Q (F0 m (pc + 3) ls (.int r :: rest))) : W p l e R s m args below meth c H locs cells slots Q (F0 m pc ls st0) := by
  have hFc := va_free hD hS hA isC hC
  refine va_calli (A1 := va_A wc H.size) (va_runS (As := As) (rest := rest) S9 hM cw ⟨lA_blind, fun U hU hW => ⟨rfl, nC_warm hn9 hW, tBA_warm htA hS hU hW hFc, by rw [hU], ⟨by rw [hU]; exact hP.sub isC hCf, hKc.moved hW.alike⟩, (hD.sub isC hnC hC).weaken (fun _ _ _ _ => trivial)⟩⟩ rfl hn hsize hst (lv_room hW) hdg hf) hS (fun q _ h => hFc q h) hFc (fun r u t H1 locs1 ht1 hvm hw hB hz hk hS1 => ?_)
  obtain ⟨hP1, hD1⟩ := hB
  rw [ht1] at hP1
  obtain ⟨hP2, hD2⟩ := va_join hP hD isC isR hC hR hnR hdis hk hFc hP1 hD1
  exact kk r u H1 locs1 hw hP2 hD2 hS1
theorem wr_S {S : Type} {post : Int32 → S → Prop} {w' : S → va_W} (S9 : CallFix p m c cc nL s args Ts own) (hM : Met l y ws rm (va_Pc As (wS D wc tysc H.size)) (va_Qi post (wB D (va_A wc H.size) w') (va_A wc H.size)) mc ms (va_A wc H.size)) (cw : CallB R s args own index y bytes maxL ret ws rm mc ms n ∧ (Cond.static y).before args s = true) (hKc : va_K D vwCl tysc s) (hP : va_P D vwCl w H) (hD : va_D A0 w) (hA : ∀ q : Nat, H0.size ≤ q → A0 q) (isC isR : List Nat) (hC : isC.map (fun i => w[i]?) = wc.map some) (hCf : isC.filterMap (fun i => w[i]?) = wc) (hnC : va_nd isC = true) (hR : isR.map (fun i => w[i]?) = wr.map some) (hnR : va_nd isR = true) (hdis : ∀ i ∈ isR, i ∉ isC)
    (hS : va_S A0 H0 H locs) (hn : As.length = n) (hsize : ls.size = nL) (hst : st0 = As.reverse ++ rest) (hW : (rest.map fun v => v.category).sum ≤ 8) (hdg : decode cc pc = .ok (.invokestatic index, 3)) (hf : cells + mc ≤ R.cells ∧ slots + ms ≤ R.slots)
    (kk : ∀ (r : Int32) (u : S) (H1 : Heap) (locs1 : List Loc), post r u → va_P D vwCl (wr ++ w' u) H1 → va_D A0 (wr ++ w' u) → va_S A0 H0 H1 locs1 → W p l e R s m args below meth c H1 locs1 (cells + mc) (slots + ms) Q (F0 m (pc + 3) ls (.int r :: rest))) : W p l e R s m args below meth c H locs cells slots Q (F0 m pc ls st0) := by
  have hFc := va_free hD hS hA isC hC
  refine va_calli (A1 := va_A wc H.size) (va_runS (As := As) (rest := rest) S9 hM cw ⟨wS_blind, fun U hU hW => ⟨rfl, by rw [hU], ⟨by rw [hU]; exact hP.sub isC hCf, hKc.moved hW.alike⟩, (hD.sub isC hnC hC).weaken (fun _ _ _ _ => trivial)⟩⟩ rfl hn hsize hst (lv_room hW) hdg hf) hS (fun q _ h => hFc q h) hFc (fun r u t H1 locs1 ht1 hvm hw hB hz hk hS1 => ?_)
  obtain ⟨hP1, hD1⟩ := hB
  rw [ht1] at hP1
  obtain ⟨hP2, hD2⟩ := va_join hP hD isC isR hC hR hnR hdis hk hFc hP1 hD1
  exact kk r u H1 locs1 hw hP2 hD2 hS1
theorem wr_Sv {S : Type} {post : S → Prop} {w' : S → va_W} (S9 : CallFix p m c cc nL s args Ts own) (hM : Met l y ws rm (va_Pc As (wS D wc tysc H.size)) (va_Qv post (wB D (va_A wc H.size) w') (va_A wc H.size)) mc ms (va_A wc H.size)) (cw : CallB R s args own index y bytes maxL ret ws rm mc ms n ∧ (Cond.static y).before args s = true) (hKc : va_K D vwCl tysc s) (hP : va_P D vwCl w H) (hD : va_D A0 w) (hA : ∀ q : Nat, H0.size ≤ q → A0 q) (isC isR : List Nat) (hC : isC.map (fun i => w[i]?) = wc.map some) (hCf : isC.filterMap (fun i => w[i]?) = wc) (hnC : va_nd isC = true) (hR : isR.map (fun i => w[i]?) = wr.map some) (hnR : va_nd isR = true) (hdis : ∀ i ∈ isR, i ∉ isC)
    (hS : va_S A0 H0 H locs) (hn : As.length = n) (hsize : ls.size = nL) (hst : st0 = As.reverse ++ rest) (hW : (rest.map fun v => v.category).sum ≤ 8) (hdg : decode cc pc = .ok (.invokestatic index, 3)) (hf : cells + mc ≤ R.cells ∧ slots + ms ≤ R.slots)
    (kk : ∀ (u : S) (H1 : Heap) (locs1 : List Loc), post u → va_P D vwCl (wr ++ w' u) H1 → va_D A0 (wr ++ w' u) → va_S A0 H0 H1 locs1 → W p l e R s m args below meth c H1 locs1 (cells + mc) (slots + ms) Q (F0 m (pc + 3) ls (rest))) : W p l e R s m args below meth c H locs cells slots Q (F0 m pc ls st0) := by
  have hFc := va_free hD hS hA isC hC
  refine va_callv (A1 := va_A wc H.size) (va_runS (As := As) (rest := rest) S9 hM cw ⟨wS_blind, fun U hU hW => ⟨rfl, by rw [hU], ⟨by rw [hU]; exact hP.sub isC hCf, hKc.moved hW.alike⟩, (hD.sub isC hnC hC).weaken (fun _ _ _ _ => trivial)⟩⟩ rfl hn hsize hst (lv_room hW) hdg hf) hS (fun q _ h => hFc q h) hFc (fun u t H1 locs1 ht1 hvm hw hB hz hk hS1 => ?_)
  obtain ⟨hP1, hD1⟩ := hB
  rw [ht1] at hP1
  obtain ⟨hP2, hD2⟩ := va_join hP hD isC isR hC hR hnR hdis hk hFc hP1 hD1
  exact kk u H1 locs1 hw hP2 hD2 hS1
theorem wr_Sl {S : Type} {post : Int64 → S → Prop} {w' : S → va_W} (S9 : CallFix p m c cc nL s args Ts own) (hM : Met l y ws rm (va_Pc As (wS D wc tysc H.size)) (va_Ql post (wB D (va_A wc H.size) w') (va_A wc H.size)) mc ms (va_A wc H.size)) (cw : CallB R s args own index y bytes maxL ret ws rm mc ms n ∧ (Cond.static y).before args s = true) (hKc : va_K D vwCl tysc s) (hP : va_P D vwCl w H) (hD : va_D A0 w) (hA : ∀ q : Nat, H0.size ≤ q → A0 q) (isC isR : List Nat) (hC : isC.map (fun i => w[i]?) = wc.map some) (hCf : isC.filterMap (fun i => w[i]?) = wc) (hnC : va_nd isC = true) (hR : isR.map (fun i => w[i]?) = wr.map some) (hnR : va_nd isR = true) (hdis : ∀ i ∈ isR, i ∉ isC)
    (hS : va_S A0 H0 H locs) (hn : As.length = n) (hsize : ls.size = nL) (hst : st0 = As.reverse ++ rest) (hW : (rest.map fun v => v.category).sum ≤ 8) (hdg : decode cc pc = .ok (.invokestatic index, 3)) (hf : cells + mc ≤ R.cells ∧ slots + ms ≤ R.slots)
    (kk : ∀ (r : Int64) (u : S) (H1 : Heap) (locs1 : List Loc), post r u → va_P D vwCl (wr ++ w' u) H1 → va_D A0 (wr ++ w' u) → va_S A0 H0 H1 locs1 → W p l e R s m args below meth c H1 locs1 (cells + mc) (slots + ms) Q (F0 m (pc + 3) ls (.long r :: rest))) : W p l e R s m args below meth c H locs cells slots Q (F0 m pc ls st0) := by
  have hFc := va_free hD hS hA isC hC
  refine va_calll (A1 := va_A wc H.size) (va_runS (As := As) (rest := rest) S9 hM cw ⟨wS_blind, fun U hU hW => ⟨rfl, by rw [hU], ⟨by rw [hU]; exact hP.sub isC hCf, hKc.moved hW.alike⟩, (hD.sub isC hnC hC).weaken (fun _ _ _ _ => trivial)⟩⟩ rfl hn hsize hst (lv_room hW) hdg hf) hS (fun q _ h => hFc q h) hFc (fun r u t H1 locs1 ht1 hvm hw hB hz hk hS1 => ?_)
  obtain ⟨hP1, hD1⟩ := hB
  rw [ht1] at hP1
  obtain ⟨hP2, hD2⟩ := va_join hP hD isC isR hC hR hnR hdis hk hFc hP1 hD1
  exact kk r u H1 locs1 hw hP2 hD2 hS1
theorem ro_Vv {post : Prop} (S : CallFix p m c cc nL s args Ts own) (hM : Met l y ws rm (va_Pc (.ref b :: As) (rW D wc tysc)) (ROv post) 0 0 nA) (cw : CallW R s args own C index y bytes maxL ret ws rm 0 0 n) (hKc : va_K D vwCl tysc s) (hP : va_P D vwCl w H) (hPc : va_P D vwCl wc H) (hr : ∃ cell : Cell, H[b]? = some cell ∧ cell.vm.isStatics = false ∧ s.vm.findClass C = some cell.cls) (hS : va_S A0 H0 H locs) (hn : As.length = n) (hsize : ls.size = nL) (hst : st0 = As.reverse ++ .ref b :: rest) (hW : (rest.map fun v => v.category).sum ≤ 8) (hdg : decode cc pc = .ok (.invokevirtual index, 3)) (hf : cells ≤ R.cells ∧ slots ≤ R.slots)
    (kk : ∀ (H1 : Heap) (locs1 : List Loc), post → va_P D vwCl w H1 → va_S A0 H0 H1 locs1 → W p l e R s m args below meth c H1 locs1 cells slots Q (F0 m (pc + 3) ls rest)) : W p l e R s m args below meth c H locs cells slots Q (F0 m pc ls st0) := by
  refine va_callv (A1 := nA) (va_runV (As := As) (rest := rest) S hM cw ⟨rW_blind, hr, fun U hU hW => ⟨rfl, by rw [hU]; exact hPc, hKc.moved hW.alike⟩⟩ rfl hn hsize hst (lv_room hW) hdg ⟨hf.1, hf.2⟩) hS (fun _ _ h => h.elim) (fun _ h => h.elim) (fun u t H1 locs1 ht hvm hw hB hz hk hS1 => ?_)
  exact kk H1 locs1 hw (hP.kept (fun k q hq => hk q.1 (hP k q hq).lt id)) hS1
theorem ro_Sv {post : Prop} (S : CallFix p m c cc nL s args Ts own) (hM : Met l y ws rm (va_Pc As (fun _ => True)) (ROv post) 0 0 nA) (cw : CallB R s args own index y bytes maxL ret ws rm 0 0 n ∧ (Cond.static y).before args s = true) (hP : va_P D vwCl w H) (hS : va_S A0 H0 H locs) (hn : As.length = n) (hsize : ls.size = nL) (hst : st0 = As.reverse ++ rest) (hW : (rest.map fun v => v.category).sum ≤ 8) (hdg : decode cc pc = .ok (.invokestatic index, 3)) (hf : cells ≤ R.cells ∧ slots ≤ R.slots)
    (kk : ∀ (H1 : Heap) (locs1 : List Loc), post → va_P D vwCl w H1 → va_S A0 H0 H1 locs1 → W p l e R s m args below meth c H1 locs1 cells slots Q (F0 m (pc + 3) ls rest)) : W p l e R s m args below meth c H locs cells slots Q (F0 m pc ls st0) := by
  refine va_callv (A1 := nA) (va_runS (As := As) (rest := rest) S hM cw ⟨rT_blind, fun U hU hW => ⟨rfl, trivial⟩⟩ rfl hn hsize hst (lv_room hW) hdg ⟨hf.1, hf.2⟩) hS (fun _ _ h => h.elim) (fun _ h => h.elim) (fun u t H1 locs1 ht hvm hw hB hz hk hS1 => ?_)
  exact kk H1 locs1 hw (hP.kept (fun k q hq => hk q.1 (hP k q hq).lt id)) hS1
/-- b ? 1 : 0, and b ? 0 : 1 -/
theorem bmerge {B : Bool} {o1 o2 : Int} {t1 t2 : Nat} (hx : p.tables.exec = Jvm.exec) (hb : c.code = cc) (d0 : decode cc pc = .ok (.ifCond .eq o1, 3)) (e0 : (pc : Int) + o1 = (t1 : Int)) (d1 : decode cc (pc + 3) = .ok (.iconst 1, 1)) (d2 : decode cc (pc + 4) = .ok (.goto o2, 3)) (e2 : ((pc + 4 : Nat) : Int) + o2 = (t2 : Int)) (d3 : decode cc t1 = .ok (.iconst 0, 1)) (e3 : t2 = t1 + 1)
    (k : W p l e R s m args below meth c H locs cells slots Q (F0 m t2 ls (.int (bi B) :: rest))) : W p l e R s m args below meth c H locs cells slots Q (F0 m pc ls (.int (bi B) :: rest)) := by
  refine lv_if_eq (x := bi B) hx hb d0 e0 (fun h => ?_) (fun h => ?_)
  · refine lv_iconst (v := 0) hx hb d3 (by decide) ?_
    rw [bi_e0.mp h] at k
    rw [e3] at k
    exact k
  · refine lv_iconst (v := 1) hx hb d1 (by decide) ?_
    refine lv_goto hx hb d2 e2 ?_
    rw [bi_n0.mp h] at k
    exact k
theorem bmergeN {B : Bool} {o1 o2 : Int} {t1 t2 : Nat} (hx : p.tables.exec = Jvm.exec) (hb : c.code = cc) (d0 : decode cc pc = .ok (.ifCond .ne o1, 3)) (e0 : (pc : Int) + o1 = (t1 : Int)) (d1 : decode cc (pc + 3) = .ok (.iconst 1, 1)) (d2 : decode cc (pc + 4) = .ok (.goto o2, 3)) (e2 : ((pc + 4 : Nat) : Int) + o2 = (t2 : Int)) (d3 : decode cc t1 = .ok (.iconst 0, 1)) (e3 : t2 = t1 + 1)
    (k : W p l e R s m args below meth c H locs cells slots Q (F0 m t2 ls (.int (bi (!B)) :: rest))) : W p l e R s m args below meth c H locs cells slots Q (F0 m pc ls (.int (bi B) :: rest)) := by
  refine lv_if_ne (x := bi B) hx hb d0 e0 (fun h => ?_) (fun h => ?_)
  · refine lv_iconst (v := 0) hx hb d3 (by decide) ?_
    rw [bi_n0.mp h] at k
    rw [e3] at k
    exact k
  · refine lv_iconst (v := 1) hx hb d1 (by decide) ?_
    refine lv_goto hx hb d2 e2 ?_
    rw [bi_e0.mp h] at k
    exact k
end LAC

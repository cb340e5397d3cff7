/-! what a throw needs of the start: the five texts, the two statics of Throwable; calls of methods that check -/
abbrev eIA : String := "java/lang/IllegalArgumentException"
abbrev eIS : String := "java/lang/IllegalStateException"
abbrev eIO : String := "java/lang/IndexOutOfBoundsException"
abbrev nmE : List String := ["java/lang/RuntimeException", "java/lang/Exception"]
def bwL : List Cond := [.declares (Bundle.initS "java/lang/RuntimeException"), .declares (Bundle.initS "java/lang/Exception"), .declares (Bundle.initS Bundle.tN), .castable eIA eIA, .castable eIS eIS, .castable eIO eIO]
def bW (U : State) : Prop := ∀ w ∈ bwL, va_Nw w U
theorem bW_same {u U : State} (hv : U.vm = u.vm) (h : bW u) : bW U := by
  intro w hw
  have hot : w.onTables = true := List.all_eq_true.mp (show bwL.all Cond.onTables = true by decide +kernel) w hw
  exact va_Nw.same hot hv.symm (h w hw)
theorem bW_warm {s U : State} (hW : s.WarmedH U.vm) (h : bW s) : bW U := by
  intro w hw
  have h9 := h w hw
  simp only [bwL, List.mem_cons, List.not_mem_nil, or_false] at hw
  rcases hw with rfl | rfl | rfl | rfl | rfl | rfl
  · exact va_Nw.warmD hW h9
  · exact va_Nw.warmD hW h9
  · exact va_Nw.warmD hW h9
  · exact va_Nw.warmC hW h9
  · exact va_Nw.warmC hW h9
  · exact va_Nw.warmC hW h9
theorem bW_use {A : Array Value} {U : State} (h : bW U) : ∀ w ∈ bwL, w.before A U = true := by
  intro w hw
  have hot : w.onTables = true := List.all_eq_true.mp (show bwL.all Cond.onTables = true by decide +kernel) w hw
  exact va_Nw.use hot (h w hw)
def tB (U : State) : Prop := bW U ∧ (∃ a, vk_R RX0 116 "out of range" a U) ∧ (∃ a, vk_R RX0 69 "there are 16 goods already" a U) ∧ (∃ a, vk_R RX0 119 "the subsidiary class is the class itself" a U) ∧ (∃ a, vk_R RX0 123 "no such goods" a U) ∧ (∃ a, vk_R RX0 126 "both are the same goods" a U) ∧ vx_Zq Bundle.tN "UNASSIGNED_STACK" Bundle.steD nA U U.heap ∧ vx_Zq Bundle.tN "SUPPRESSED_SENTINEL" Bundle.listD nA U U.heap
theorem tB_same {u U : State} (hv : U.vm = u.vm) (hh : U.heap = u.heap) (h : tB u) : tB U := by
  obtain ⟨h0, ⟨a1, h1⟩, ⟨a2, h2⟩, ⟨a3, h3⟩, ⟨a4, h4⟩, ⟨a5, h5⟩, h6, h7⟩ := h
  have hal : u.vm.Alike U.vm := by rw [hv]; exact Vm.Alike.refl u.vm
  exact ⟨bW_same hv h0, ⟨a1, h1.same hv⟩, ⟨a2, h2.same hv⟩, ⟨a3, h3.same hv⟩, ⟨a4, h4.same hv⟩, ⟨a5, h5.same hv⟩, by rw [hh]; exact h6.moved hal, by rw [hh]; exact h7.moved hal⟩
theorem tB_warm {s U : State} {H : Heap} {locs : List Loc} (h : tB s) (hS : va_S nA s.heap H locs) (hU : U.heap = H) (hW : s.WarmedH U.vm) : tB U := by
  obtain ⟨h0, ⟨a1, h1⟩, ⟨a2, h2⟩, ⟨a3, h3⟩, ⟨a4, h4⟩, ⟨a5, h5⟩, h6, h7⟩ := h
  exact ⟨bW_warm hW h0, ⟨a1, h1.warm hW⟩, ⟨a2, h2.warm hW⟩, ⟨a3, h3.warm hW⟩, ⟨a4, h4.warm hW⟩, ⟨a5, h5.warm hW⟩, by rw [hU]; exact (h6.moved hW.alike).kept (fun a h1 h2 => hS.2.1 a h1 h2), by rw [hU]; exact (h7.moved hW.alike).kept (fun a h1 h2 => hS.2.1 a h1 h2)⟩
abbrev XB (xc : String → Prop) : String → State → State → Prop := vx_X (fun (_ : Unit) => True) (fun E _ _ => xc E) nA
theorem tB_blind {av : List Value} : FrameBlind (va_Pc av tB) := fun a U g mk q => ⟨q.1, tB_same (u := U) (U := U.calling g mk a) rfl rfl q.2⟩
def tW (D : va_G) (w : va_W) (tys : List (ClassId × FieldType)) (U : State) : Prop := tB U ∧ rW D w tys U
theorem tW_blind {av : List Value} {D : va_G} {w : va_W} {tys : List (ClassId × FieldType)} : FrameBlind (va_Pc av (tW D w tys)) := fun a U g mk q => ⟨q.1, tB_same (u := U) (U := U.calling g mk a) rfl rfl q.2.1, (rW_blind a U g mk ⟨q.1, q.2.2⟩).2⟩
theorem xF {s t : State} {H : Heap} {locs : List Loc} (hS : va_S nA s.heap H locs) (h1 : H.size ≤ t.heap.size) (h2 : ∀ q : Nat, q < H.size → t.heap[q]? = H[q]?) : va_F nA s t := ⟨Nat.le_trans hS.1 h1, fun q hq hn => (h2 q (Nat.lt_of_lt_of_le hq hS.1)).trans (hS.2.1 q hq hn)⟩
theorem bad_ia : ∀ w ∈ (vx_atS RX0 118 "java/lang/IllegalArgumentException" nmE).filter (fun w => !goodWord w), w ∈ bwL := by decide +kernel
theorem bad_is : ∀ w ∈ (vx_atS RX0 71 "java/lang/IllegalStateException" nmE).filter (fun w => !goodWord w), w ∈ bwL := by decide +kernel
theorem bad_io : ∀ w ∈ (vx_atS RX0 125 "java/lang/IndexOutOfBoundsException" nmE).filter (fun w => !goodWord w), w ∈ bwL := by decide +kernel
theorem ot_ia : ∀ w ∈ Cond.classLink RX0 114 "java/lang/IllegalArgumentException" :: Cond.initialized "java/lang/IllegalArgumentException" :: vx_atS RX0 118 "java/lang/IllegalArgumentException" nmE, vx_ot w = true := by decide +kernel
theorem ot_is : ∀ w ∈ Cond.classLink RX0 67 "java/lang/IllegalStateException" :: Cond.initialized "java/lang/IllegalStateException" :: vx_atS RX0 71 "java/lang/IllegalStateException" nmE, vx_ot w = true := by decide +kernel
theorem ot_io : ∀ w ∈ Cond.classLink RX0 121 "java/lang/IndexOutOfBoundsException" :: Cond.initialized "java/lang/IndexOutOfBoundsException" :: vx_atS RX0 125 "java/lang/IndexOutOfBoundsException" nmE, vx_ot w = true := by decide +kernel
section TXC
variable {p : Program} {l : Launch} {e : Env} {R : Room} {s : State} {m : MethodId} {args : Array Value} {below : List Frame} {meth : Method} {c : Code} {H : Heap} {locs : List Loc} {cells slots : Nat} {Q : State → Prop}
variable {y : MethodName} {bytes cc : ByteArray} {maxL nL n index pc mc ms : Nat} {ret : Option FieldType} {ws : List Cond} {rm : Room} {Ts : List Cond} {own C : String} {b : Addr} {As rest st0 : List Value} {ls : Array Slot} {D : va_G} {w wc : va_W} {tysc : List (ClassId × FieldType)} {post : Prop} {xc : String → Prop}
/-- a static call of a method that checks its ints, and throws -/
theorem tx_S (S : CallFix p m c cc nL s args Ts own) (hM : vx_Met l y ws rm (va_Pc As tB) (ROv post) (XB xc) mc ms nA) (cw : CallB R s args own index y bytes maxL ret ws rm mc ms n ∧ (Cond.static y).before args s = true) (ht : tB s) (hP : va_P D vwCl w H) (hS : va_S nA s.heap H locs) (hn : As.length = n) (hsize : ls.size = nL) (hst : st0 = As.reverse ++ rest) (hW : (rest.map fun v => v.category).sum ≤ 8) (hdg : decode cc pc = .ok (.invokestatic index, 3)) (hf : cells + mc ≤ R.cells ∧ slots + ms ≤ R.slots)
    (kx : ∀ (E : String) (ce : Cell) (q9 : Addr) (H1 : Heap) (locs1 : List Loc), xc E → va_P D vwCl w H1 → va_S nA s.heap H1 locs1 → H1[q9]? = some ce → ce.vm = .none → s.vm.findClass E = some ce.cls → vx_W p l e R s m args below meth c H1 locs1 (cells + mc) (slots + ms) Q (F0 m pc ls rest) q9)
    (kk : ∀ (H1 : Heap) (locs1 : List Loc), post → va_P D vwCl w H1 → va_S nA s.heap H1 locs1 → W p l e R s m args below meth c H1 locs1 (cells + mc) (slots + ms) Q (F0 m (pc + 3) ls rest)) : W p l e R s m args below meth c H locs cells slots Q (F0 m pc ls st0) := by
  refine vx_callv (A1 := nA) (AX := nA) (vx_runS (As := As) (rest := rest) S hM cw ⟨tB_blind, fun U hU hW => ⟨rfl, tB_warm ht hS hU hW⟩⟩ rfl hn hsize hst (lv_room hW) hdg hf) hS (fun _ _ h => h.elim) (fun _ h => h.elim) (fun _ _ h => h.elim) (fun E ce q9 u t H1 locs1 ht1 hvm hp hB hz hk hS1 hce hcv hcl => ?_) (fun u t H1 locs1 ht1 hvm hw hB hz hk hS1 => ?_)
  · exact kx E ce q9 H1 locs1 hB (hP.kept (fun k q hq => hk q.1 (hP k q hq).lt id)) hS1 hce hcv hcl
  · exact kk H1 locs1 hw (hP.kept (fun k q hq => hk q.1 (hP k q hq).lt id)) hS1
/-- .. and of an object's own -/
theorem tx_V (S : CallFix p m c cc nL s args Ts own) (hM : vx_Met l y ws rm (va_Pc (.ref b :: As) (tW D wc tysc)) (ROv post) (XB xc) mc ms nA) (cw : CallW R s args own C index y bytes maxL ret ws rm mc ms n) (ht : tB s) (hKc : va_K D vwCl tysc s) (hP : va_P D vwCl w H) (hPc : va_P D vwCl wc H) (hr : ∃ cell : Cell, H[b]? = some cell ∧ cell.vm.isStatics = false ∧ s.vm.findClass C = some cell.cls) (hS : va_S nA s.heap H locs) (hn : As.length = n) (hsize : ls.size = nL) (hst : st0 = As.reverse ++ .ref b :: rest) (hW : (rest.map fun v => v.category).sum ≤ 8) (hdg : decode cc pc = .ok (.invokevirtual index, 3)) (hf : cells + mc ≤ R.cells ∧ slots + ms ≤ R.slots)
    (kx : ∀ (E : String) (ce : Cell) (q9 : Addr) (H1 : Heap) (locs1 : List Loc), xc E → va_P D vwCl w H1 → va_S nA s.heap H1 locs1 → H1[q9]? = some ce → ce.vm = .none → s.vm.findClass E = some ce.cls → vx_W p l e R s m args below meth c H1 locs1 (cells + mc) (slots + ms) Q (F0 m pc ls rest) q9)
    (kk : ∀ (H1 : Heap) (locs1 : List Loc), post → va_P D vwCl w H1 → va_S nA s.heap H1 locs1 → W p l e R s m args below meth c H1 locs1 (cells + mc) (slots + ms) Q (F0 m (pc + 3) ls rest)) : W p l e R s m args below meth c H locs cells slots Q (F0 m pc ls st0) := by
  refine vx_callv (A1 := nA) (AX := nA) (vx_runV (As := As) (rest := rest) S hM cw ⟨tW_blind, hr, fun U hU hW => ⟨rfl, tB_warm ht hS hU hW, by rw [hU]; exact hPc, hKc.moved hW.alike⟩⟩ rfl hn hsize hst (lv_room hW) hdg hf) hS (fun _ _ h => h.elim) (fun _ h => h.elim) (fun _ _ h => h.elim) (fun E ce q9 u t H1 locs1 ht1 hvm hp hB hz hk hS1 hce hcv hcl => ?_) (fun u t H1 locs1 ht1 hvm hw hB hz hk hS1 => ?_)
  · exact kx E ce q9 H1 locs1 hB (hP.kept (fun k q hq => hk q.1 (hP k q hq).lt id)) hS1 hce hcv hcl
  · exact kk H1 locs1 hw (hP.kept (fun k q hq => hk q.1 (hP k q hq).lt id)) hS1
end TXC
/-- it goes on to the caller -/
theorem tx_out {p : Program} {l : Launch} {e : Env} {R : Room} {s : State} {m : MethodId} {args : Array Value} {below : List Frame} {meth : Method} {c : Code} {H : Heap} {locs : List Loc} {cells slots : Nat} {free : Nat → Prop} {ls : Array Slot} {rest : List Value} {Qc : Array Value → State → Outcome → State → Prop} {xc : String → Prop} {pc : Nat} {E : String} {ce : Cell} {q : Addr} {mc ms : Nat} (htab : ∀ x ∈ c.exceptionTable.toList, False) (hlocks : meth.locks = false) (hS : va_S nA s.heap H locs) (hcell : H[q]? = some ce) (hv : ce.vm = .none) (hcl : s.vm.findClass E = some ce.cls) (hx : xc E) (hc : cells ≤ mc) (hs : slots ≤ ms) :
    vx_W p l e R s m args below meth c H locs cells slots (vx_MQ below Qc (XB xc) args s mc ms free) (F0 m pc ls rest) q :=
  vx_out (fun x h => (htab x h).elim) hlocks hcell hv hcl (fun t ht hW => ⟨(), trivial, hx, hS.F ht⟩) (fun z h => (hS.2.2 z h).elim) hc hs
/-- a method that checks, from its entry -/
theorem tx_ofS {l : Launch} {y : MethodName} {ws ws' : List Cond} {rm : Room} {av : List Value} {Qc : Array Value → State → Outcome → State → Prop} {XC : String → State → State → Prop} {mc ms : Nat} {cc : ByteArray} {maxL : Nat} {ret : Option FieldType} {own : String} (hy : plainName y.cls = true) (hown : y.cls = own) (hw : ws = Cond.code y cc maxL ret :: ws') (hav : (lg_sl av).length ≤ maxL)
    (body : ∀ p e s m args below meth c (ls : Array Slot), p.tables.exec = Jvm.exec → c.code = cc → meth.sig.returnType = ret → c.maxLocals = maxL → meth.locks = false → s.vm.findClass own = some m.cls → (∀ w ∈ ws, w.before args s = true) → (∀ x ∈ c.exceptionTable.toList, False) → tB s → va_P (fun _ => 0, fun _ _ => 0) vwCl [] s.heap → lv_has ls maxL (lv_args 0 av) →
      W p l e rm s m args below meth c s.heap [] 0 0 (vx_MQ below Qc XC args s mc ms nA) (F0 m 0 ls [])) : vx_Met l y ws rm (va_Pc av tB) Qc XC mc ms nA := by
  refine vx_ofW (cc := cc) (maxL := maxL) (ret := ret) hy hw ?_
  intro p e s m args below meth c s₁ B hml htab hv
  obtain ⟨rfl, ht⟩ := hv
  have hown2 : s.vm.findClass own = some m.cls := by rw [← hown]; exact findClass_of_methodNamed B.named
  have hl := lv_entry av (n := maxL) hav
  rw [lg_entry_eq]
  generalize (lg_sl av ++ List.replicate (maxL - (lg_sl av).length) Slot.unset).toArray = ls at hl ⊢
  exact body p e s m _ below meth c ls B.exec B.bytes B.returns hml B.notSynchronized hown2 (atoms_spec (ws := ws) B.pre) htab ht (fun k q h => by simp at h) hl
theorem tx_of {l : Launch} {y : MethodName} {ws ws' : List Cond} {rm : Room} {av : List Value} {D : va_G} {w : va_W} {tys : List (ClassId × FieldType)} {Qc : Array Value → State → Outcome → State → Prop} {XC : String → State → State → Prop} {mc ms : Nat} {cc : ByteArray} {maxL : Nat} {ret : Option FieldType} {own : String} (hy : plainName y.cls = true) (hown : y.cls = own) (hw : ws = Cond.code y cc maxL ret :: ws') (hav : (lg_sl av).length ≤ maxL)
    (body : ∀ p e s m args below meth c (ls : Array Slot), p.tables.exec = Jvm.exec → c.code = cc → meth.sig.returnType = ret → c.maxLocals = maxL → meth.locks = false → s.vm.findClass own = some m.cls → (∀ w ∈ ws, w.before args s = true) → (∀ x ∈ c.exceptionTable.toList, False) → tB s → va_P D vwCl w s.heap → va_K D vwCl tys s → lv_has ls maxL (lv_args 0 av) →
      W p l e rm s m args below meth c s.heap [] 0 0 (vx_MQ below Qc XC args s mc ms nA) (F0 m 0 ls [])) : vx_Met l y ws rm (va_Pc av (tW D w tys)) Qc XC mc ms nA := by
  refine vx_ofW (cc := cc) (maxL := maxL) (ret := ret) hy hw ?_
  intro p e s m args below meth c s₁ B hml htab hv
  obtain ⟨rfl, ht, hP, hK⟩ := hv
  have hown2 : s.vm.findClass own = some m.cls := by rw [← hown]; exact findClass_of_methodNamed B.named
  have hl := lv_entry av (n := maxL) hav
  rw [lg_entry_eq]
  generalize (lg_sl av ++ List.replicate (maxL - (lg_sl av).length) Slot.unset).toArray = ls at hl ⊢
  exact body p e s m _ below meth c ls B.exec B.bytes B.returns hml B.notSynchronized hown2 (atoms_spec (ws := ws) B.pre) htab ht hP hK hl
theorem nI_m1 {n : Nat} (h0 : 0 < n) : nI n - 1 = nI (n - 1) := by
  obtain ⟨k, rfl⟩ := Nat.exists_eq_succ_of_ne_zero (Nat.pos_iff_ne_zero.mp h0)
  exact nI_pred k
/-- which numbers name goods -/
theorem gd_iff {v : Int32} {n : Nat} (hn : n ≤ 16) : mIn v 0 (nI n - 1) = true ↔ ∃ g, g < n ∧ v = nI g := by
  constructor
  · intro h
    have h1 : ¬ v < 0 := by
      intro k; simp [mIn, k] at h
    have h2 : ¬ nI n - 1 < v := by
      intro k; simp [mIn, h1, k] at h
    obtain ⟨g, hg, rfl⟩ := nI_of h1
    refine ⟨g, ?_, rfl⟩
    rcases Nat.eq_zero_or_pos n with rfl | h0
    · exact absurd (by show nI 0 - 1 < nI g; exact Int32.lt_of_lt_of_le (b := 0) (by decide) (nI_pos' hg)) h2
    · rw [nI_m1 h0] at h2
      rcases Nat.lt_or_ge g n with q | q
      · exact q
      · exact absurd (nI_lt (by omega) hg) h2
  · rintro ⟨g, hg, rfl⟩
    have h0 : 0 < n := by omega
    have h1 : ¬ nI g < 0 := nI_pos (by omega)
    have h2 : ¬ nI n - 1 < nI g := by rw [nI_m1 h0]; exact nI_nlt (by omega) (by omega)
    simp [mIn, h1, h2]
theorem gd_f {v : Int32} {n : Nat} (hn : n ≤ 16) (h : v < 0 ∨ ¬ v < nI n) : mIn v 0 (nI n - 1) = false := by
  cases e : mIn v 0 (nI n - 1) with
  | false => rfl
  | true =>
    obtain ⟨g, hg, rfl⟩ := (gd_iff hn).mp e
    rcases h with h | h
    · exact absurd h (nI_pos (by omega))
    · exact absurd (nI_lt hg (by omega)) h
theorem gd_t {v : Int32} {n : Nat} (hn : n ≤ 16) (h1 : ¬ v < 0) (h2 : v < nI n) : mIn v 0 (nI n - 1) = true := by
  obtain ⟨g, hg, rfl⟩ := nI_of h1
  exact (gd_iff hn).mpr ⟨g, (nI_ltI hg (by omega)).mp h2, rfl⟩
theorem mIn_f1 {v lo hi : Int32} (h : v < lo) : mIn v lo hi = false := by simp [mIn, h]
theorem mIn_f2 {v lo hi : Int32} (h : ¬ v < lo) (h2 : ¬ v ≤ hi) : mIn v lo hi = false := by
  have h3 : hi < v := Int32.not_le.mp h2
  simp [mIn, h, h3]
theorem mIn_t {v lo hi : Int32} (h : ¬ v < lo) (h2 : v ≤ hi) : mIn v lo hi = true := by
  have h3 : ¬ hi < v := Int32.not_lt.mpr h2
  simp [mIn, h, h3]

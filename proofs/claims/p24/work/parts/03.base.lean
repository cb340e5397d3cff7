/-! words for the state: booleans as ints, the two objects' cells, reading calls, checking calls -/
def bi (b : Bool) : Int32 := if b = true then 1 else 0
theorem bi_t : bi true = 1 := rfl
theorem bi_f : bi false = 0 := rfl
theorem bi_e0 {b : Bool} : bi b = 0 ↔ b = false := by cases b <;> decide
theorem bi_n0 {b : Bool} : ¬ bi b = 0 ↔ b = true := by cases b <;> decide
theorem bi_e1 {b : Bool} : bi b = 1 ↔ b = true := by cases b <;> decide
theorem bi_nar (b : Bool) : narrow .boolean (.int (bi b)) = .int (bi b) := by cases b <;> rfl
theorem bi_fit (b : Bool) : fits .boolean (.int (bi b)) = true := by cases b <;> rfl
theorem bi_vn (b : Bool) : vp_nar .boolean (bi b) = bi b := by cases b <;> rfl
theorem zn0 : narrow .boolean (.int 0) = .int 0 := rfl
theorem zn1 : narrow .boolean (.int 1) = .int 1 := rfl
abbrev tIZ (cI cZ : ClassId) : List (ClassId × FieldType) := [(cI, .int), (cZ, .boolean)]
/-- the desk's ten cells: F k is what its row k holds (0 table .. 7 places), n the count, R the row kept for its own use -/
abbrev wX (q : Nat → Nat) (F : Nat → Nat → Int32) (n : Int32) (R : Nat → Int32) (cI cZ : ClassId) : va_W := [(q 9, .inr (0, [.ref (q 0), .ref (q 1), .ref (q 2), .ref (q 3), .ref (q 4), .ref (q 5), .ref (q 6), .ref (q 7), .int n, .ref (q 8)])), (q 0, .inl (cI, 100, .inl (F 0))), (q 1, .inl (cI, 10, .inl (F 1))), (q 2, .inl (cI, 10, .inl (F 2))), (q 3, .inl (cZ, 20, .inl (F 3))), (q 4, .inl (cI, 16, .inl (F 4))), (q 5, .inl (cI, 16, .inl (F 5))), (q 6, .inl (cI, 16, .inl (F 6))), (q 7, .inl (cI, 16, .inl (F 7))), (q 8, .inl (cI, 16, .inl R))]
/-- the reference's ten cells, th: which exception its latest call would have thrown -/
abbrev wM (q : Nat → Nat) (F : Nat → Nat → Int32) (n : Int32) (R : Nat → Int32) (th : Int32) (cI cZ : ClassId) : va_W := [(q 9, .inr (1, [.ref (q 0), .ref (q 1), .ref (q 2), .ref (q 3), .int n, .ref (q 4), .ref (q 5), .ref (q 6), .ref (q 7), .ref (q 8), .int th])), (q 0, .inl (cI, 100, .inl (F 0))), (q 1, .inl (cI, 10, .inl (F 1))), (q 2, .inl (cI, 10, .inl (F 2))), (q 3, .inl (cZ, 20, .inl (F 3))), (q 4, .inl (cI, 16, .inl (F 4))), (q 5, .inl (cI, 16, .inl (F 5))), (q 6, .inl (cI, 16, .inl (F 6))), (q 7, .inl (cI, 16, .inl (F 7))), (q 8, .inl (cI, 16, .inl R))]
def uF (F : Nat → Nat → Int32) (k : Nat) (g : Nat → Int32) : Nat → Nat → Int32 := fun j => cond (Nat.beq j k) g (F j)
/-- a world that is only read -/
def rW (D : va_G) (w : va_W) (tys : List (ClassId × FieldType)) (U : State) : Prop := va_P D vwCl w U.heap ∧ va_K D vwCl tys U
abbrev nA : Nat → Prop := fun _ => False
abbrev RO (post : Int32 → Prop) : Array Value → State → Outcome → State → Prop := va_Qi (fun r (_ : Unit) => post r) (fun _ _ => True) nA
abbrev ROv (post : Prop) : Array Value → State → Outcome → State → Prop := va_Qv (fun (_ : Unit) => post) (fun _ _ => True) nA
theorem rW_blind {av : List Value} {D : va_G} {w : va_W} {tys : List (ClassId × FieldType)} : FrameBlind (va_Pc av (rW D w tys)) := fun a U g mk q => ⟨q.1, q.2.1, va_K.moved (u := U) (U := U.calling g mk a) (Vm.Alike.refl U.vm) q.2.2⟩
theorem rT_blind {av : List Value} : FrameBlind (va_Pc av (fun _ => True)) := fun _ _ _ _ q => ⟨q.1, trivial⟩
theorem nA_S {A : Nat → Prop} {H0 H : Heap} {locs : List Loc} (h : va_S nA H0 H locs) : va_S A H0 H locs := ⟨h.1, fun q h1 _ => h.2.1 q h1 id, fun l hl => (h.2.2 l hl).elim⟩
section ROC
variable {p : Program} {l : Launch} {e : Env} {R : Room} {s : State} {m : MethodId} {args : Array Value} {below : List Frame} {meth : Method} {c : Code} {H H0 : Heap} {locs : List Loc} {cells slots : Nat} {Q : State → Prop}
variable {y : MethodName} {bytes cc : ByteArray} {maxL nL n index pc : Nat} {ret : Option FieldType} {ws : List Cond} {rm : Room} {Ts : List Cond} {own C : String} {b : Addr} {As rest st0 : List Value} {ls : Array Slot} {A0 : Nat → Prop} {D : va_G} {w wc : va_W} {tys tysc : List (ClassId × FieldType)} {post : Int32 → Prop}
/-- a call of a method that only reads: the world stays -/
theorem ro_V (S : CallFix p m c cc nL s args Ts own) (hM : Met l y ws rm (va_Pc (.ref b :: As) (rW D wc tysc)) (RO post) 0 0 nA) (cw : CallW R s args own C index y bytes maxL ret ws rm 0 0 n) (hKc : va_K D vwCl tysc s) (hP : va_P D vwCl w H) (hPc : va_P D vwCl wc H) (hr : ∃ cell : Cell, H[b]? = some cell ∧ cell.vm.isStatics = false ∧ s.vm.findClass C = some cell.cls) (hS : va_S A0 H0 H locs) (hn : As.length = n) (hsize : ls.size = nL) (hst : st0 = As.reverse ++ .ref b :: rest) (hW : (rest.map fun v => v.category).sum ≤ 8) (hdg : decode cc pc = .ok (.invokevirtual index, 3)) (hf : cells ≤ R.cells ∧ slots ≤ R.slots)
    (kk : ∀ (r : Int32) (H1 : Heap) (locs1 : List Loc), post r → va_P D vwCl w H1 → va_S A0 H0 H1 locs1 → W p l e R s m args below meth c H1 locs1 cells slots Q (F0 m (pc + 3) ls (.int r :: rest))) : W p l e R s m args below meth c H locs cells slots Q (F0 m pc ls st0) := by
  refine va_calli (A1 := nA) (va_runV (As := As) (rest := rest) S hM cw ⟨rW_blind, hr, fun U hU hW => ⟨rfl, by rw [hU]; exact hPc, hKc.moved hW.alike⟩⟩ rfl hn hsize hst (lv_room hW) hdg ⟨hf.1, hf.2⟩) hS (fun _ _ h => h.elim) (fun _ h => h.elim) (fun r u t H1 locs1 ht hvm hw hB hz hk hS1 => ?_)
  exact kk r H1 locs1 hw (hP.kept (fun k q hq => hk q.1 (hP k q hq).lt id)) hS1
/-- a static call of a method that looks at its ints alone -/
theorem ro_S (S : CallFix p m c cc nL s args Ts own) (hM : Met l y ws rm (va_Pc As (fun _ => True)) (RO post) 0 0 nA) (cw : CallB R s args own index y bytes maxL ret ws rm 0 0 n ∧ (Cond.static y).before args s = true) (hP : va_P D vwCl w H) (hS : va_S A0 H0 H locs) (hn : As.length = n) (hsize : ls.size = nL) (hst : st0 = As.reverse ++ rest) (hW : (rest.map fun v => v.category).sum ≤ 8) (hdg : decode cc pc = .ok (.invokestatic index, 3)) (hf : cells ≤ R.cells ∧ slots ≤ R.slots)
    (kk : ∀ (r : Int32) (H1 : Heap) (locs1 : List Loc), post r → va_P D vwCl w H1 → va_S A0 H0 H1 locs1 → W p l e R s m args below meth c H1 locs1 cells slots Q (F0 m (pc + 3) ls (.int r :: rest))) : W p l e R s m args below meth c H locs cells slots Q (F0 m pc ls st0) := by
  refine va_calli (A1 := nA) (va_runS (As := As) (rest := rest) S hM cw ⟨rT_blind, fun U hU hW => ⟨rfl, trivial⟩⟩ rfl hn hsize hst (lv_room hW) hdg ⟨hf.1, hf.2⟩) hS (fun _ _ h => h.elim) (fun _ h => h.elim) (fun r u t H1 locs1 ht hvm hw hB hz hk hS1 => ?_)
  exact kk r H1 locs1 hw (hP.kept (fun k q hq => hk q.1 (hP k q hq).lt id)) hS1
/-- .. and of one that reads a world -/
theorem ro_SW (S : CallFix p m c cc nL s args Ts own) (hM : Met l y ws rm (va_Pc As (rW D wc tysc)) (RO post) 0 0 nA) (cw : CallB R s args own index y bytes maxL ret ws rm 0 0 n ∧ (Cond.static y).before args s = true) (hKc : va_K D vwCl tysc s) (hP : va_P D vwCl w H) (hPc : va_P D vwCl wc H) (hS : va_S A0 H0 H locs) (hn : As.length = n) (hsize : ls.size = nL) (hst : st0 = As.reverse ++ rest) (hW : (rest.map fun v => v.category).sum ≤ 8) (hdg : decode cc pc = .ok (.invokestatic index, 3)) (hf : cells ≤ R.cells ∧ slots ≤ R.slots)
    (kk : ∀ (r : Int32) (H1 : Heap) (locs1 : List Loc), post r → va_P D vwCl w H1 → va_S A0 H0 H1 locs1 → W p l e R s m args below meth c H1 locs1 cells slots Q (F0 m (pc + 3) ls (.int r :: rest))) : W p l e R s m args below meth c H locs cells slots Q (F0 m pc ls st0) := by
  refine va_calli (A1 := nA) (va_runS (As := As) (rest := rest) S hM cw ⟨rW_blind, fun U hU hW => ⟨rfl, by rw [hU]; exact hPc, hKc.moved hW.alike⟩⟩ rfl hn hsize hst (lv_room hW) hdg ⟨hf.1, hf.2⟩) hS (fun _ _ h => h.elim) (fun _ h => h.elim) (fun r u t H1 locs1 ht hvm hw hB hz hk hS1 => ?_)
  exact kk r H1 locs1 hw (hP.kept (fun k q hq => hk q.1 (hP k q hq).lt id)) hS1
end ROC
/-- a reading method from its entry -/
theorem ro_of {l : Launch} {y : MethodName} {ws ws' : List Cond} {rm : Room} {av : List Value} {D : va_G} {w : va_W} {tys : List (ClassId × FieldType)} {post : Int32 → Prop} {cc : ByteArray} {maxL : Nat} {ret : Option FieldType} {own : String} (hy : plainName y.cls = true) (hown : y.cls = own) (hw : ws = Cond.code y cc maxL ret :: ws') (hav : (lg_sl av).length ≤ maxL)
    (body : ∀ p e s m args below meth c (ls : Array Slot), p.tables.exec = Jvm.exec → c.code = cc → meth.sig.returnType = ret → c.maxLocals = maxL → meth.locks = false → s.vm.findClass own = some m.cls → (∀ w ∈ ws, w.before args s = true) → va_P D vwCl w s.heap → va_K D vwCl tys s → lv_has ls maxL (lv_args 0 av) →
      W p l e rm s m args below meth c s.heap [] 0 0 (MQ below (RO post) args s 0 0 nA) (F0 m 0 ls [])) : Met l y ws rm (va_Pc av (rW D w tys)) (RO post) 0 0 nA := by
  refine Met.ofW (cc := cc) (maxL := maxL) (ret := ret) hy hw ?_
  intro p e s m args below meth c s₁ B hml hv
  obtain ⟨rfl, hP, hK⟩ := hv
  have hown2 : s.vm.findClass own = some m.cls := by rw [← hown]; exact findClass_of_methodNamed B.named
  have hl := lv_entry av (n := maxL) hav
  rw [lg_entry_eq]
  generalize (lg_sl av ++ List.replicate (maxL - (lg_sl av).length) Slot.unset).toArray = ls at hl ⊢
  exact body p e s m _ below meth c ls B.exec B.bytes B.returns hml B.notSynchronized hown2 (atoms_spec (ws := ws) B.pre) hP hK hl
/-- a method of ints alone from its entry -/
theorem ro_ofS {l : Launch} {y : MethodName} {ws ws' : List Cond} {rm : Room} {av : List Value} {post : Int32 → Prop} {cc : ByteArray} {maxL : Nat} {ret : Option FieldType} {own : String} (hy : plainName y.cls = true) (hown : y.cls = own) (hw : ws = Cond.code y cc maxL ret :: ws') (hav : (lg_sl av).length ≤ maxL)
    (body : ∀ p e s m args below meth c (ls : Array Slot), p.tables.exec = Jvm.exec → c.code = cc → meth.sig.returnType = ret → c.maxLocals = maxL → meth.locks = false → s.vm.findClass own = some m.cls → (∀ w ∈ ws, w.before args s = true) → va_P (fun _ => 0, fun _ _ => 0) vwCl [] s.heap → lv_has ls maxL (lv_args 0 av) →
      W p l e rm s m args below meth c s.heap [] 0 0 (MQ below (RO post) args s 0 0 nA) (F0 m 0 ls [])) : Met l y ws rm (va_Pc av (fun _ => True)) (RO post) 0 0 nA := by
  refine Met.ofW (cc := cc) (maxL := maxL) (ret := ret) hy hw ?_
  intro p e s m args below meth c s₁ B hml hv
  obtain ⟨rfl, -⟩ := hv
  have hown2 : s.vm.findClass own = some m.cls := by rw [← hown]; exact findClass_of_methodNamed B.named
  have hl := lv_entry av (n := maxL) hav
  rw [lg_entry_eq]
  generalize (lg_sl av ++ List.replicate (maxL - (lg_sl av).length) Slot.unset).toArray = ls at hl ⊢
  exact body p e s m _ below meth c ls B.exec B.bytes B.returns hml B.notSynchronized hown2 (atoms_spec (ws := ws) B.pre) (fun k q h => by simp at h) hl

/-! the class's calls with right arguments -/
theorem mIn_a {v lo hi : Int32} (h : mIn v lo hi = true) : ¬ v < lo := by
  intro k; simp [mIn, k] at h
theorem mIn_b {v lo hi : Int32} (h : mIn v lo hi = true) : v ≤ hi := by
  have h1 := mIn_a h
  by_cases k : hi < v
  · simp [mIn, h1, k] at h
  · exact Int32.not_lt.mp k
/-- the first of f places from j on that will do, or NONE -/
def lowV (P : Nat → Bool) : Nat → Nat → Int32
  | _, 0 => -1
  | j, f + 1 => if P j = true then nI j else lowV P (j + 1) f
theorem lowV_t {P : Nat → Bool} {k : Nat} (hk : k < 48) (h : P k = true) : lowV P k (48 - k) = nI k := by
  rw [show 48 - k = (47 - k) + 1 by omega]
  show (if P k = true then nI k else _) = nI k
  rw [if_pos h]
theorem lowV_f {P : Nat → Bool} {k : Nat} (hk : k < 48) (h : P k = false) : lowV P k (48 - k) = lowV P (k + 1) (48 - (k + 1)) := by
  rw [show 48 - k = (48 - (k + 1)) + 1 by omega]
  show (if P k = true then nI k else lowV P (k + 1) (48 - (k + 1))) = _
  rw [if_neg (by rw [h]; decide)]
def sFor (F : Nat → Nat → Int32) (n g : Nat) : Int32 := lowV (fun k => sClean F n g (nI k)) 0 48
/-- a reading method from its entry -/
theorem ro_ofv {l : Launch} {y : MethodName} {ws ws' : List Cond} {rm : Room} {av : List Value} {D : va_G} {w : va_W} {tys : List (ClassId × FieldType)} {post : Prop} {cc : ByteArray} {maxL : Nat} {ret : Option FieldType} {own : String} (hy : plainName y.cls = true) (hown : y.cls = own) (hw : ws = Cond.code y cc maxL ret :: ws') (hav : (lg_sl av).length ≤ maxL)
    (body : ∀ p e s m args below meth c (ls : Array Slot), p.tables.exec = Jvm.exec → c.code = cc → meth.sig.returnType = ret → c.maxLocals = maxL → meth.locks = false → s.vm.findClass own = some m.cls → (∀ w ∈ ws, w.before args s = true) → va_P D vwCl w s.heap → va_K D vwCl tys s → lv_has ls maxL (lv_args 0 av) →
      W p l e rm s m args below meth c s.heap [] 0 0 (MQ below (ROv post) args s 0 0 nA) (F0 m 0 ls [])) : Met l y ws rm (va_Pc av (rW D w tys)) (ROv post) 0 0 nA := by
  refine Met.ofW (cc := cc) (maxL := maxL) (ret := ret) hy hw ?_
  intro p e s m args below meth c s₁ B hml hv
  obtain ⟨rfl, hP, hK⟩ := hv
  have hown2 : s.vm.findClass own = some m.cls := by rw [← hown]; exact findClass_of_methodNamed B.named
  have hl := lv_entry av (n := maxL) hav
  rw [lg_entry_eq]
  generalize (lg_sl av ++ List.replicate (maxL - (lg_sl av).length) Slot.unset).toArray = ls at hl ⊢
  exact body p e s m _ below meth c ls B.exec B.bytes B.returns hml B.notSynchronized hown2 (atoms_spec (ws := ws) B.pre) hP hK hl
/-- a method of ints alone from its entry -/
theorem ro_ofSv {l : Launch} {y : MethodName} {ws ws' : List Cond} {rm : Room} {av : List Value} {post : Prop} {cc : ByteArray} {maxL : Nat} {ret : Option FieldType} {own : String} (hy : plainName y.cls = true) (hown : y.cls = own) (hw : ws = Cond.code y cc maxL ret :: ws') (hav : (lg_sl av).length ≤ maxL)
    (body : ∀ p e s m args below meth c (ls : Array Slot), p.tables.exec = Jvm.exec → c.code = cc → meth.sig.returnType = ret → c.maxLocals = maxL → meth.locks = false → s.vm.findClass own = some m.cls → (∀ w ∈ ws, w.before args s = true) → va_P (fun _ => 0, fun _ _ => 0) vwCl [] s.heap → lv_has ls maxL (lv_args 0 av) →
      W p l e rm s m args below meth c s.heap [] 0 0 (MQ below (ROv post) args s 0 0 nA) (F0 m 0 ls [])) : Met l y ws rm (va_Pc av (fun _ => True)) (ROv post) 0 0 nA := by
  refine Met.ofW (cc := cc) (maxL := maxL) (ret := ret) hy hw ?_
  intro p e s m args below meth c s₁ B hml hv
  obtain ⟨rfl, -⟩ := hv
  have hown2 : s.vm.findClass own = some m.cls := by rw [← hown]; exact findClass_of_methodNamed B.named
  have hl := lv_entry av (n := maxL) hav
  rw [lg_entry_eq]
  generalize (lg_sl av ++ List.replicate (maxL - (lg_sl av).length) Slot.unset).toArray = ls at hl ⊢
  exact body p e s m _ below meth c ls B.exec B.bytes B.returns hml B.notSynchronized hown2 (atoms_spec (ws := ws) B.pre) (fun k q h => by simp at h) hl
set_option maxHeartbeats 4000000 in
set_option maxRecDepth 100000 in
theorem v_checkRange (l : Launch) (v : Int32) (lo : Int32) (hi : Int32) (h1 : ¬ v < lo) (h2 : v ≤ hi) : Met l yX0_checkRange wsX0_checkRange ({ frames := 0, cells := 0, slots := 0, locals := 0 }) (va_Pc [.int v, .int lo, .int hi] (fun _ => True)) (ROv True) 0 0 nA := by
  refine ro_ofSv (own := RX0) (cc := cX0_checkRange) (maxL := 3) (ret := none) (by decide) rfl rfl (Nat.le_of_ble_eq_true rfl) ?_
  intro p9 e9 s m9 a9 below meth c9 ls hx hb hr hml hlocks hown hts hP hl
  have hS : va_S nA s.heap s.heap [] := va_S.rf
  have hl : lv_has ls 3 [(0, .int v), (1, .int lo), (2, .int hi)] := hl
  refine lv_iload_n hx hb dX0_checkRange_0 rfl (lv_at hl 0 rfl) ?_
  refine lv_iload_n hx hb dX0_checkRange_1 rfl (lv_at hl 1 rfl) ?_
  refine lv_icmp_lt (x := v) (y := lo) (tgt := 10) hx hb dX0_checkRange_2 (by decide) (fun k => (h1 k : False).elim) (fun c_2 => ?_)
  refine lv_iload_n hx hb dX0_checkRange_5 rfl (lv_at hl 0 rfl) ?_
  refine lv_iload_n hx hb dX0_checkRange_6 rfl (lv_at hl 2 rfl) ?_
  refine lv_icmp_le (x := v) (y := hi) (tgt := 20) hx hb dX0_checkRange_7 (by decide) (fun c_7 => ?_) (fun k => (k h2 : False).elim)
  exact W.vret hx hb hr (fun t ht hW => ⟨⟨(), rfl, trivial, trivial⟩, hS.F ht⟩) hS.2.2 dX0_checkRange_20
set_option maxHeartbeats 4000000 in
set_option maxRecDepth 100000 in
theorem v_checkClass (l : Launch) (v : Int32) (h1 : mIn v 1 9 = true) : Met l yX0_checkClass wsX0_checkClass ({ frames := 1, cells := 0, slots := 0, locals := 22 }) (va_Pc [.int v] (fun _ => True)) (ROv True) 0 0 nA := by
  refine ro_ofSv (own := RX0) (cc := cX0_checkClass) (maxL := 1) (ret := none) (by decide) rfl rfl (Nat.le_of_ble_eq_true rfl) ?_
  intro p9 e9 s m9 a9 below meth c9 ls hx hb hr hml hlocks hown hts hP hl
  have hS : va_S nA s.heap s.heap [] := va_S.rf
  have hl : lv_has ls 1 [(0, .int v)] := hl
  refine lv_iload_n hx hb dX0_checkClass_0 rfl (lv_at hl 0 rfl) ?_
  refine lv_iconst (v := 1) hx hb dX0_checkClass_1 (by decide) ?_
  refine lv_bipush (v := 9) hx hb dX0_checkClass_2 (by decide) ?_
  refine ro_Sv (As := [.int v, .int 1, .int 9]) (rest := []) ⟨hx, hb, hml, hown, hts⟩ (v_checkRange l v 1 9 (mIn_a h1) (mIn_b h1)) (va_cwS 3 hts gX0_checkClass_X0_checkRange rfl rfl rfl (by decide +kernel) ⟨Nat.le_of_ble_eq_true rfl, Nat.le_of_ble_eq_true rfl⟩) hP hS rfl hl.1 rfl (Nat.le_of_ble_eq_true rfl) dX0_checkClass_4 ⟨Nat.le_of_ble_eq_true rfl, Nat.le_of_ble_eq_true rfl⟩ (fun H locs _ hP hS => ?_)
  exact W.vret hx hb hr (fun t ht hW => ⟨⟨(), rfl, trivial, trivial⟩, hS.F ht⟩) hS.2.2 dX0_checkClass_7
set_option maxHeartbeats 4000000 in
set_option maxRecDepth 100000 in
theorem v_checkPlace (l : Launch) (v : Int32) (h1 : mIn v 0 47 = true) : Met l yX0_checkPlace wsX0_checkPlace ({ frames := 1, cells := 0, slots := 0, locals := 22 }) (va_Pc [.int v] (fun _ => True)) (ROv True) 0 0 nA := by
  refine ro_ofSv (own := RX0) (cc := cX0_checkPlace) (maxL := 1) (ret := none) (by decide) rfl rfl (Nat.le_of_ble_eq_true rfl) ?_
  intro p9 e9 s m9 a9 below meth c9 ls hx hb hr hml hlocks hown hts hP hl
  have hS : va_S nA s.heap s.heap [] := va_S.rf
  have hl : lv_has ls 1 [(0, .int v)] := hl
  refine lv_iload_n hx hb dX0_checkPlace_0 rfl (lv_at hl 0 rfl) ?_
  refine lv_iconst (v := 0) hx hb dX0_checkPlace_1 (by decide) ?_
  refine lv_bipush (v := 47) hx hb dX0_checkPlace_2 (by decide) ?_
  refine ro_Sv (As := [.int v, .int 0, .int 47]) (rest := []) ⟨hx, hb, hml, hown, hts⟩ (v_checkRange l v 0 47 (mIn_a h1) (mIn_b h1)) (va_cwS 3 hts gX0_checkPlace_X0_checkRange rfl rfl rfl (by decide +kernel) ⟨Nat.le_of_ble_eq_true rfl, Nat.le_of_ble_eq_true rfl⟩) hP hS rfl hl.1 rfl (Nat.le_of_ble_eq_true rfl) dX0_checkPlace_4 ⟨Nat.le_of_ble_eq_true rfl, Nat.le_of_ble_eq_true rfl⟩ (fun H locs _ hP hS => ?_)
  exact W.vret hx hb hr (fun t ht hW => ⟨⟨(), rfl, trivial, trivial⟩, hS.F ht⟩) hS.2.2 dX0_checkPlace_7
set_option maxHeartbeats 4000000 in
set_option maxRecDepth 100000 in
theorem v_checkGoods (l : Launch) (D : va_G) (q : Nat → Nat) (F : Nat → Nat → Int32) (n : Nat) (R : Nat → Int32) (cI cZ : ClassId) (g : Nat) (hg : g < n) (hn : n ≤ 16) : Met l yX0_checkGoods wsX0_checkGoods ({ frames := 0, cells := 0, slots := 0, locals := 0 }) (va_Pc [.ref (q 9), .int (nI g)] (rW D (wX q F (nI n) R cI cZ) (tIZ cI cZ))) (ROv True) 0 0 nA := by
  refine ro_ofv (own := RX0) (cc := cX0_checkGoods) (maxL := 2) (ret := none) (by decide) rfl rfl (Nat.le_of_ble_eq_true rfl) ?_
  intro p9 e9 s m9 a9 below meth c9 ls hx hb hr hml hlocks hown hts hP hK hl
  have hin : ∀ w ∈ wsX00, w ∈ wsX0_checkGoods := by decide +kernel
  have f35 := hts (.fieldLink RX0 35 "DangerousGoods" "count" "I") (by decide +kernel)
  have hS : va_S nA s.heap s.heap [] := va_S.rf
  have hl : lv_has ls 2 [(0, .ref (q 9)), (1, .int (nI g))] := hl
  refine lv_iload_n hx hb dX0_checkGoods_0 rfl (lv_at hl 1 rfl) ?_
  refine lv_if_lt (x := (nI g)) (tgt := 12) hx hb dX0_checkGoods_1 (by decide) (fun k => (nI_pos (by omega) k : False).elim) (fun c_1 => ?_)
  refine lv_iload_n hx hb dX0_checkGoods_4 rfl (lv_at hl 1 rfl) ?_
  refine lv_aload_n hx hb dX0_checkGoods_5 rfl (lv_at hl 0 rfl) ?_
  refine va_get (D := D) (ci := 0) (v := .int (nI n)) hx hb hts hin hown hK hP 0 rfl rfl 8 (by decide) f35 (fun _ h9 => h9) rfl dX0_checkGoods_6 ?_
  refine lv_icmp_lt (x := (nI g)) (y := (nI n)) (tgt := 22) hx hb dX0_checkGoods_9 (by decide) (fun c_9 => ?_) (fun k => (k (nI_lt hg (by omega)) : False).elim)
  exact W.vret hx hb hr (fun t ht hW => ⟨⟨(), rfl, trivial, trivial⟩, hS.F ht⟩) hS.2.2 dX0_checkGoods_22
set_option maxHeartbeats 4000000 in
set_option maxRecDepth 100000 in
theorem v_checkPair (l : Launch) (D : va_G) (q : Nat → Nat) (F : Nat → Nat → Int32) (n : Nat) (R : Nat → Int32) (cI cZ : ClassId) (g : Nat) (h : Nat) (hg : g < n) (hh : h < n) (hne : ¬ g = h) (hn : n ≤ 16) : Met l yX0_checkPair wsX0_checkPair ({ frames := 1, cells := 0, slots := 0, locals := 21 }) (va_Pc [.ref (q 9), .int (nI g), .int (nI h)] (rW D (wX q F (nI n) R cI cZ) (tIZ cI cZ))) (ROv True) 0 0 nA := by
  refine ro_ofv (own := RX0) (cc := cX0_checkPair) (maxL := 3) (ret := none) (by decide) rfl rfl (Nat.le_of_ble_eq_true rfl) ?_
  intro p9 e9 s m9 a9 below meth c9 ls hx hb hr hml hlocks hown hts hP hK hl
  have hS : va_S nA s.heap s.heap [] := va_S.rf
  have hl : lv_has ls 3 [(0, .ref (q 9)), (1, .int (nI g)), (2, .int (nI h))] := hl
  refine lv_aload_n hx hb dX0_checkPair_0 rfl (lv_at hl 0 rfl) ?_
  refine lv_iload_n hx hb dX0_checkPair_1 rfl (lv_at hl 1 rfl) ?_
  refine ro_Vv (As := [.int (nI g)]) (rest := []) ⟨hx, hb, hml, hown, hts⟩ (v_checkGoods l D q F n R cI cZ g hg hn) (cwV 1 hts gX0_checkPair_X0_checkGoods rfl rfl rfl (by decide +kernel) ⟨Nat.le_of_ble_eq_true rfl, Nat.le_of_ble_eq_true rfl⟩) hK hP hP (va_recv hK hP (ci := 0) (q0 := 0) rfl rfl) hS rfl hl.1 rfl (Nat.le_of_ble_eq_true rfl) dX0_checkPair_2 ⟨Nat.le_of_ble_eq_true rfl, Nat.le_of_ble_eq_true rfl⟩ (fun H locs _ hP hS => ?_)
  refine lv_aload_n hx hb dX0_checkPair_5 rfl (lv_at hl 0 rfl) ?_
  refine lv_iload_n hx hb dX0_checkPair_6 rfl (lv_at hl 2 rfl) ?_
  refine ro_Vv (As := [.int (nI h)]) (rest := []) ⟨hx, hb, hml, hown, hts⟩ (v_checkGoods l D q F n R cI cZ h hh hn) (cwV 1 hts gX0_checkPair_X0_checkGoods rfl rfl rfl (by decide +kernel) ⟨Nat.le_of_ble_eq_true rfl, Nat.le_of_ble_eq_true rfl⟩) hK hP hP (va_recv hK hP (ci := 0) (q0 := 0) rfl rfl) hS rfl hl.1 rfl (Nat.le_of_ble_eq_true rfl) dX0_checkPair_7 ⟨Nat.le_of_ble_eq_true rfl, Nat.le_of_ble_eq_true rfl⟩ (fun H locs _ hP hS => ?_)
  refine lv_iload_n hx hb dX0_checkPair_10 rfl (lv_at hl 1 rfl) ?_
  refine lv_iload_n hx hb dX0_checkPair_11 rfl (lv_at hl 2 rfl) ?_
  refine lv_icmp_ne (x := (nI g)) (y := (nI h)) (tgt := 25) hx hb dX0_checkPair_12 (by decide) (fun c_12 => ?_) (fun k => (hne ((nI_eq (by omega) (by omega)).mp k) : False).elim)
  exact W.vret hx hb hr (fun t ht hW => ⟨⟨(), rfl, trivial, trivial⟩, hS.F ht⟩) hS.2.2 dX0_checkPair_25
set_option maxHeartbeats 4000000 in
set_option maxRecDepth 100000 in
theorem v_distance (l : Launch) (D : va_G) (q : Nat → Nat) (F : Nat → Nat → Int32) (n : Nat) (R : Nat → Int32) (cI cZ : ClassId) (a : Int32) (b : Int32) (h1 : mIn a 0 47 = true) (h2 : mIn b 0 47 = true) : Met l yX0_distance wsX0_distance ({ frames := 2, cells := 0, slots := 0, locals := 63 }) (va_Pc [.ref (q 9), .int a, .int b] (rW D (wX q F (nI n) R cI cZ) (tIZ cI cZ))) (RO (fun r => r = sDist a b)) 0 0 nA := by
  refine ro_of (own := RX0) (cc := cX0_distance) (maxL := 3) (ret := (some .int)) (by decide) rfl rfl (Nat.le_of_ble_eq_true rfl) ?_
  intro p9 e9 s m9 a9 below meth c9 ls hx hb hr hml hlocks hown hts hP hK hl
  have hS : va_S nA s.heap s.heap [] := va_S.rf
  have hl : lv_has ls 3 [(0, .ref (q 9)), (1, .int a), (2, .int b)] := hl
  refine lv_iload_n hx hb dX0_distance_0 rfl (lv_at hl 1 rfl) ?_
  refine ro_Sv (As := [.int a]) (rest := []) ⟨hx, hb, hml, hown, hts⟩ (v_checkPlace l a h1) (va_cwS 1 hts gX0_distance_X0_checkPlace rfl rfl rfl (by decide +kernel) ⟨Nat.le_of_ble_eq_true rfl, Nat.le_of_ble_eq_true rfl⟩) hP hS rfl hl.1 rfl (Nat.le_of_ble_eq_true rfl) dX0_distance_1 ⟨Nat.le_of_ble_eq_true rfl, Nat.le_of_ble_eq_true rfl⟩ (fun H locs _ hP hS => ?_)
  refine lv_iload_n hx hb dX0_distance_4 rfl (lv_at hl 2 rfl) ?_
  refine ro_Sv (As := [.int b]) (rest := []) ⟨hx, hb, hml, hown, hts⟩ (v_checkPlace l b h2) (va_cwS 1 hts gX0_distance_X0_checkPlace rfl rfl rfl (by decide +kernel) ⟨Nat.le_of_ble_eq_true rfl, Nat.le_of_ble_eq_true rfl⟩) hP hS rfl hl.1 rfl (Nat.le_of_ble_eq_true rfl) dX0_distance_5 ⟨Nat.le_of_ble_eq_true rfl, Nat.le_of_ble_eq_true rfl⟩ (fun H locs _ hP hS => ?_)
  refine lv_iload_n hx hb dX0_distance_8 rfl (lv_at hl 1 rfl) ?_
  refine lv_iload_n hx hb dX0_distance_9 rfl (lv_at hl 2 rfl) ?_
  refine ro_S (As := [.int a, .int b]) (rest := []) ⟨hx, hb, hml, hown, hts⟩ (c_X0_distanceBetween l a b) (va_cwS 2 hts gX0_distance_X0_distanceBetween rfl rfl rfl (by decide +kernel) ⟨Nat.le_of_ble_eq_true rfl, Nat.le_of_ble_eq_true rfl⟩) hP hS rfl hl.1 rfl (Nat.le_of_ble_eq_true rfl) dX0_distance_10 ⟨Nat.le_of_ble_eq_true rfl, Nat.le_of_ble_eq_true rfl⟩ (fun r H locs hr9 hP hS => ?_)
  subst hr9
  exact W.iret hx hb hr (fun t ht hW => ⟨⟨_, (), rfl, rfl, trivial⟩, hS.F ht⟩) hS.2.2 dX0_distance_13
set_option maxHeartbeats 4000000 in
set_option maxRecDepth 100000 in
theorem v_placeOf (l : Launch) (D : va_G) (q : Nat → Nat) (F : Nat → Nat → Int32) (n : Nat) (R : Nat → Int32) (cI cZ : ClassId) (g : Nat) (hw : WF F n) (hg : g < n) : Met l yX0_placeOf wsX0_placeOf ({ frames := 1, cells := 0, slots := 0, locals := 21 }) (va_Pc [.ref (q 9), .int (nI g)] (rW D (wX q F (nI n) R cI cZ) (tIZ cI cZ))) (RO (fun r => r = F 7 g)) 0 0 nA := by
  refine ro_of (own := RX0) (cc := cX0_placeOf) (maxL := 2) (ret := (some .int)) (by decide) rfl rfl (Nat.le_of_ble_eq_true rfl) ?_
  intro p9 e9 s m9 a9 below meth c9 ls hx hb hr hml hlocks hown hts hP hK hl
  have hin : ∀ w ∈ wsX00, w ∈ wsX0_placeOf := by decide +kernel
  have f32 := hts (.fieldLink RX0 32 "DangerousGoods" "places" "[I") (by decide +kernel)
  have hS : va_S nA s.heap s.heap [] := va_S.rf
  have hl : lv_has ls 2 [(0, .ref (q 9)), (1, .int (nI g))] := hl
  refine lv_aload_n hx hb dX0_placeOf_0 rfl (lv_at hl 0 rfl) ?_
  refine lv_iload_n hx hb dX0_placeOf_1 rfl (lv_at hl 1 rfl) ?_
  refine ro_Vv (As := [.int (nI g)]) (rest := []) ⟨hx, hb, hml, hown, hts⟩ (v_checkGoods l D q F n R cI cZ g hg hw.n) (cwV 1 hts gX0_placeOf_X0_checkGoods rfl rfl rfl (by decide +kernel) ⟨Nat.le_of_ble_eq_true rfl, Nat.le_of_ble_eq_true rfl⟩) hK hP hP (va_recv hK hP (ci := 0) (q0 := 0) rfl rfl) hS rfl hl.1 rfl (Nat.le_of_ble_eq_true rfl) dX0_placeOf_2 ⟨Nat.le_of_ble_eq_true rfl, Nat.le_of_ble_eq_true rfl⟩ (fun H locs _ hP hS => ?_)
  refine lv_aload_n hx hb dX0_placeOf_5 rfl (lv_at hl 0 rfl) ?_
  refine va_get (D := D) (ci := 0) (v := .ref (q 7)) hx hb hts hin hown hK hP 0 rfl rfl 7 (by decide) f32 (fun _ h9 => h9) rfl dX0_placeOf_6 ?_
  refine lv_iload_n hx hb dX0_placeOf_9 rfl (lv_at hl 1 rfl) ?_
  refine xiald hx hb hK hP 8 0 rfl rfl (g := g) (hw.g hg) (by decide) dX0_placeOf_10 ?_
  exact W.iret hx hb hr (fun t ht hW => ⟨⟨_, (), rfl, rfl, trivial⟩, hS.F ht⟩) hS.2.2 dX0_placeOf_11
set_option maxHeartbeats 4000000 in
set_option maxRecDepth 100000 in
theorem v_isLimited (l : Launch) (D : va_G) (q : Nat → Nat) (F : Nat → Nat → Int32) (n : Nat) (R : Nat → Int32) (cI cZ : ClassId) (g : Nat) (hw : WF F n) (hg : g < n) : Met l yX0_isLimited wsX0_isLimited ({ frames := 2, cells := 0, slots := 0, locals := 45 }) (va_Pc [.ref (q 9), .int (nI g)] (rW D (wX q F (nI n) R cI cZ) (tIZ cI cZ))) (RO (fun r => r = bi (sLim F g))) 0 0 nA := by
  refine ro_of (own := RX0) (cc := cX0_isLimited) (maxL := 2) (ret := (some .boolean)) (by decide) rfl rfl (Nat.le_of_ble_eq_true rfl) ?_
  intro p9 e9 s m9 a9 below meth c9 ls hx hb hr hml hlocks hown hts hP hK hl
  have hS : va_S nA s.heap s.heap [] := va_S.rf
  have hl : lv_has ls 2 [(0, .ref (q 9)), (1, .int (nI g))] := hl
  refine lv_aload_n hx hb dX0_isLimited_0 rfl (lv_at hl 0 rfl) ?_
  refine lv_iload_n hx hb dX0_isLimited_1 rfl (lv_at hl 1 rfl) ?_
  refine ro_Vv (As := [.int (nI g)]) (rest := []) ⟨hx, hb, hml, hown, hts⟩ (v_checkGoods l D q F n R cI cZ g hg hw.n) (cwV 1 hts gX0_isLimited_X0_checkGoods rfl rfl rfl (by decide +kernel) ⟨Nat.le_of_ble_eq_true rfl, Nat.le_of_ble_eq_true rfl⟩) hK hP hP (va_recv hK hP (ci := 0) (q0 := 0) rfl rfl) hS rfl hl.1 rfl (Nat.le_of_ble_eq_true rfl) dX0_isLimited_2 ⟨Nat.le_of_ble_eq_true rfl, Nat.le_of_ble_eq_true rfl⟩ (fun H locs _ hP hS => ?_)
  refine lv_aload_n hx hb dX0_isLimited_5 rfl (lv_at hl 0 rfl) ?_
  refine lv_iload_n hx hb dX0_isLimited_6 rfl (lv_at hl 1 rfl) ?_
  refine ro_V (As := [.int (nI g)]) (rest := []) ⟨hx, hb, hml, hown, hts⟩ (c_X0_areLimited l D q F n R cI cZ g hw hg) (cwV 1 hts gX0_isLimited_X0_areLimited rfl rfl rfl (by decide +kernel) ⟨Nat.le_of_ble_eq_true rfl, Nat.le_of_ble_eq_true rfl⟩) hK hP hP (va_recv hK hP (ci := 0) (q0 := 0) rfl rfl) hS rfl hl.1 rfl (Nat.le_of_ble_eq_true rfl) dX0_isLimited_7 ⟨Nat.le_of_ble_eq_true rfl, Nat.le_of_ble_eq_true rfl⟩ (fun r H locs hr9 hP hS => ?_)
  subst hr9
  exact W.zret hx hb hr (bi_nar _) (fun t ht hW => ⟨⟨_, (), rfl, rfl, trivial⟩, hS.F ht⟩) hS.2.2 dX0_isLimited_10
set_option maxHeartbeats 4000000 in
set_option maxRecDepth 100000 in
theorem v_isExcepted (l : Launch) (D : va_G) (q : Nat → Nat) (F : Nat → Nat → Int32) (n : Nat) (R : Nat → Int32) (cI cZ : ClassId) (g : Nat) (hw : WF F n) (hg : g < n) : Met l yX0_isExcepted wsX0_isExcepted ({ frames := 2, cells := 0, slots := 0, locals := 45 }) (va_Pc [.ref (q 9), .int (nI g)] (rW D (wX q F (nI n) R cI cZ) (tIZ cI cZ))) (RO (fun r => r = bi (sExc F g))) 0 0 nA := by
  refine ro_of (own := RX0) (cc := cX0_isExcepted) (maxL := 2) (ret := (some .boolean)) (by decide) rfl rfl (Nat.le_of_ble_eq_true rfl) ?_
  intro p9 e9 s m9 a9 below meth c9 ls hx hb hr hml hlocks hown hts hP hK hl
  have hS : va_S nA s.heap s.heap [] := va_S.rf
  have hl : lv_has ls 2 [(0, .ref (q 9)), (1, .int (nI g))] := hl
  refine lv_aload_n hx hb dX0_isExcepted_0 rfl (lv_at hl 0 rfl) ?_
  refine lv_iload_n hx hb dX0_isExcepted_1 rfl (lv_at hl 1 rfl) ?_
  refine ro_Vv (As := [.int (nI g)]) (rest := []) ⟨hx, hb, hml, hown, hts⟩ (v_checkGoods l D q F n R cI cZ g hg hw.n) (cwV 1 hts gX0_isExcepted_X0_checkGoods rfl rfl rfl (by decide +kernel) ⟨Nat.le_of_ble_eq_true rfl, Nat.le_of_ble_eq_true rfl⟩) hK hP hP (va_recv hK hP (ci := 0) (q0 := 0) rfl rfl) hS rfl hl.1 rfl (Nat.le_of_ble_eq_true rfl) dX0_isExcepted_2 ⟨Nat.le_of_ble_eq_true rfl, Nat.le_of_ble_eq_true rfl⟩ (fun H locs _ hP hS => ?_)
  refine lv_aload_n hx hb dX0_isExcepted_5 rfl (lv_at hl 0 rfl) ?_
  refine lv_iload_n hx hb dX0_isExcepted_6 rfl (lv_at hl 1 rfl) ?_
  refine ro_V (As := [.int (nI g)]) (rest := []) ⟨hx, hb, hml, hown, hts⟩ (c_X0_areExcepted l D q F n R cI cZ g hw hg) (cwV 1 hts gX0_isExcepted_X0_areExcepted rfl rfl rfl (by decide +kernel) ⟨Nat.le_of_ble_eq_true rfl, Nat.le_of_ble_eq_true rfl⟩) hK hP hP (va_recv hK hP (ci := 0) (q0 := 0) rfl rfl) hS rfl hl.1 rfl (Nat.le_of_ble_eq_true rfl) dX0_isExcepted_7 ⟨Nat.le_of_ble_eq_true rfl, Nat.le_of_ble_eq_true rfl⟩ (fun r H locs hr9 hP hS => ?_)
  subst hr9
  exact W.zret hx hb hr (bi_nar _) (fun t ht hW => ⟨⟨_, (), rfl, rfl, trivial⟩, hS.F ht⟩) hS.2.2 dX0_isExcepted_10
set_option maxHeartbeats 4000000 in
set_option maxRecDepth 100000 in
theorem v_isMisplaced (l : Launch) (D : va_G) (q : Nat → Nat) (F : Nat → Nat → Int32) (n : Nat) (R : Nat → Int32) (cI cZ : ClassId) (g : Nat) (hw : WF F n) (hg : g < n) : Met l yX0_isMisplaced wsX0_isMisplaced ({ frames := 3, cells := 0, slots := 0, locals := 68 }) (va_Pc [.ref (q 9), .int (nI g)] (rW D (wX q F (nI n) R cI cZ) (tIZ cI cZ))) (RO (fun r => r = bi (sMis F g (F 7 g)))) 0 0 nA := by
  refine ro_of (own := RX0) (cc := cX0_isMisplaced) (maxL := 2) (ret := (some .boolean)) (by decide) rfl rfl (Nat.le_of_ble_eq_true rfl) ?_
  intro p9 e9 s m9 a9 below meth c9 ls hx hb hr hml hlocks hown hts hP hK hl
  have hin : ∀ w ∈ wsX00, w ∈ wsX0_isMisplaced := by decide +kernel
  have f32 := hts (.fieldLink RX0 32 "DangerousGoods" "places" "[I") (by decide +kernel)
  have hS : va_S nA s.heap s.heap [] := va_S.rf
  have hl : lv_has ls 2 [(0, .ref (q 9)), (1, .int (nI g))] := hl
  refine lv_aload_n hx hb dX0_isMisplaced_0 rfl (lv_at hl 0 rfl) ?_
  refine lv_iload_n hx hb dX0_isMisplaced_1 rfl (lv_at hl 1 rfl) ?_
  refine ro_Vv (As := [.int (nI g)]) (rest := []) ⟨hx, hb, hml, hown, hts⟩ (v_checkGoods l D q F n R cI cZ g hg hw.n) (cwV 1 hts gX0_isMisplaced_X0_checkGoods rfl rfl rfl (by decide +kernel) ⟨Nat.le_of_ble_eq_true rfl, Nat.le_of_ble_eq_true rfl⟩) hK hP hP (va_recv hK hP (ci := 0) (q0 := 0) rfl rfl) hS rfl hl.1 rfl (Nat.le_of_ble_eq_true rfl) dX0_isMisplaced_2 ⟨Nat.le_of_ble_eq_true rfl, Nat.le_of_ble_eq_true rfl⟩ (fun H locs _ hP hS => ?_)
  refine lv_aload_n hx hb dX0_isMisplaced_5 rfl (lv_at hl 0 rfl) ?_
  refine lv_iload_n hx hb dX0_isMisplaced_6 rfl (lv_at hl 1 rfl) ?_
  refine lv_aload_n hx hb dX0_isMisplaced_7 rfl (lv_at hl 0 rfl) ?_
  refine va_get (D := D) (ci := 0) (v := .ref (q 7)) hx hb hts hin hown hK hP 0 rfl rfl 7 (by decide) f32 (fun _ h9 => h9) rfl dX0_isMisplaced_8 ?_
  refine lv_iload_n hx hb dX0_isMisplaced_11 rfl (lv_at hl 1 rfl) ?_
  refine xiald hx hb hK hP 8 0 rfl rfl (g := g) (hw.g hg) (by decide) dX0_isMisplaced_12 ?_
  refine ro_V (As := [.int (nI g), .int (F 7 g)]) (rest := []) ⟨hx, hb, hml, hown, hts⟩ (c_X0_wouldBeMisplaced l D q F n R cI cZ g (F 7 g) hw hg (hw.p7 hg)) (cwV 2 hts gX0_isMisplaced_X0_wouldBeMisplaced rfl rfl rfl (by decide +kernel) ⟨Nat.le_of_ble_eq_true rfl, Nat.le_of_ble_eq_true rfl⟩) hK hP hP (va_recv hK hP (ci := 0) (q0 := 0) rfl rfl) hS rfl hl.1 rfl (Nat.le_of_ble_eq_true rfl) dX0_isMisplaced_13 ⟨Nat.le_of_ble_eq_true rfl, Nat.le_of_ble_eq_true rfl⟩ (fun r H locs hr9 hP hS => ?_)
  subst hr9
  exact W.zret hx hb hr (bi_nar _) (fun t ht hW => ⟨⟨_, (), rfl, rfl, trivial⟩, hS.F ht⟩) hS.2.2 dX0_isMisplaced_16
set_option maxHeartbeats 4000000 in
set_option maxRecDepth 100000 in
theorem v_inBreachWith (l : Launch) (D : va_G) (q : Nat → Nat) (F : Nat → Nat → Int32) (n : Nat) (R : Nat → Int32) (cI cZ : ClassId) (g : Nat) (hw : WF F n) (hg : g < n) : Met l yX0_inBreachWith wsX0_inBreachWith ({ frames := 5, cells := 0, slots := 0, locals := 134 }) (va_Pc [.ref (q 9), .int (nI g)] (rW D (wX q F (nI n) R cI cZ) (tIZ cI cZ))) (RO (fun r => r = nI (sAt F n g (F 7 g)))) 0 0 nA := by
  refine ro_of (own := RX0) (cc := cX0_inBreachWith) (maxL := 2) (ret := (some .int)) (by decide) rfl rfl (Nat.le_of_ble_eq_true rfl) ?_
  intro p9 e9 s m9 a9 below meth c9 ls hx hb hr hml hlocks hown hts hP hK hl
  have hin : ∀ w ∈ wsX00, w ∈ wsX0_inBreachWith := by decide +kernel
  have f32 := hts (.fieldLink RX0 32 "DangerousGoods" "places" "[I") (by decide +kernel)
  have hS : va_S nA s.heap s.heap [] := va_S.rf
  have hl : lv_has ls 2 [(0, .ref (q 9)), (1, .int (nI g))] := hl
  refine lv_aload_n hx hb dX0_inBreachWith_0 rfl (lv_at hl 0 rfl) ?_
  refine lv_iload_n hx hb dX0_inBreachWith_1 rfl (lv_at hl 1 rfl) ?_
  refine ro_Vv (As := [.int (nI g)]) (rest := []) ⟨hx, hb, hml, hown, hts⟩ (v_checkGoods l D q F n R cI cZ g hg hw.n) (cwV 1 hts gX0_inBreachWith_X0_checkGoods rfl rfl rfl (by decide +kernel) ⟨Nat.le_of_ble_eq_true rfl, Nat.le_of_ble_eq_true rfl⟩) hK hP hP (va_recv hK hP (ci := 0) (q0 := 0) rfl rfl) hS rfl hl.1 rfl (Nat.le_of_ble_eq_true rfl) dX0_inBreachWith_2 ⟨Nat.le_of_ble_eq_true rfl, Nat.le_of_ble_eq_true rfl⟩ (fun H locs _ hP hS => ?_)
  refine lv_aload_n hx hb dX0_inBreachWith_5 rfl (lv_at hl 0 rfl) ?_
  refine lv_iload_n hx hb dX0_inBreachWith_6 rfl (lv_at hl 1 rfl) ?_
  refine lv_aload_n hx hb dX0_inBreachWith_7 rfl (lv_at hl 0 rfl) ?_
  refine va_get (D := D) (ci := 0) (v := .ref (q 7)) hx hb hts hin hown hK hP 0 rfl rfl 7 (by decide) f32 (fun _ h9 => h9) rfl dX0_inBreachWith_8 ?_
  refine lv_iload_n hx hb dX0_inBreachWith_11 rfl (lv_at hl 1 rfl) ?_
  refine xiald hx hb hK hP 8 0 rfl rfl (g := g) (hw.g hg) (by decide) dX0_inBreachWith_12 ?_
  refine ro_V (As := [.int (nI g), .int (F 7 g)]) (rest := []) ⟨hx, hb, hml, hown, hts⟩ (c_X0_breachesAt l D q F n R cI cZ g (F 7 g) hw hg) (cwV 2 hts gX0_inBreachWith_X0_breachesAt rfl rfl rfl (by decide +kernel) ⟨Nat.le_of_ble_eq_true rfl, Nat.le_of_ble_eq_true rfl⟩) hK hP hP (va_recv hK hP (ci := 0) (q0 := 0) rfl rfl) hS rfl hl.1 rfl (Nat.le_of_ble_eq_true rfl) dX0_inBreachWith_13 ⟨Nat.le_of_ble_eq_true rfl, Nat.le_of_ble_eq_true rfl⟩ (fun r H locs hr9 hP hS => ?_)
  subst hr9
  exact W.iret hx hb hr (fun t ht hW => ⟨⟨_, (), rfl, rfl, trivial⟩, hS.F ht⟩) hS.2.2 dX0_inBreachWith_16
set_option maxHeartbeats 4000000 in
set_option maxRecDepth 100000 in
theorem v_need (l : Launch) (D : va_G) (q : Nat → Nat) (F : Nat → Nat → Int32) (n : Nat) (R : Nat → Int32) (cI cZ : ClassId) (g : Nat) (h : Nat) (hw : WF F n) (hg : g < n) (hh : h < n) (hne : ¬ g = h) : Met l yX0_need wsX0_need ({ frames := 3, cells := 0, slots := 0, locals := 87 }) (va_Pc [.ref (q 9), .int (nI g), .int (nI h)] (rW D (wX q F (nI n) R cI cZ) (tIZ cI cZ))) (RO (fun r => r = sNeed F g h)) 0 0 nA := by
  refine ro_of (own := RX0) (cc := cX0_need) (maxL := 3) (ret := (some .int)) (by decide) rfl rfl (Nat.le_of_ble_eq_true rfl) ?_
  intro p9 e9 s m9 a9 below meth c9 ls hx hb hr hml hlocks hown hts hP hK hl
  have hS : va_S nA s.heap s.heap [] := va_S.rf
  have hl : lv_has ls 3 [(0, .ref (q 9)), (1, .int (nI g)), (2, .int (nI h))] := hl
  refine lv_aload_n hx hb dX0_need_0 rfl (lv_at hl 0 rfl) ?_
  refine lv_iload_n hx hb dX0_need_1 rfl (lv_at hl 1 rfl) ?_
  refine lv_iload_n hx hb dX0_need_2 rfl (lv_at hl 2 rfl) ?_
  refine ro_Vv (As := [.int (nI g), .int (nI h)]) (rest := []) ⟨hx, hb, hml, hown, hts⟩ (v_checkPair l D q F n R cI cZ g h hg hh hne hw.n) (cwV 2 hts gX0_need_X0_checkPair rfl rfl rfl (by decide +kernel) ⟨Nat.le_of_ble_eq_true rfl, Nat.le_of_ble_eq_true rfl⟩) hK hP hP (va_recv hK hP (ci := 0) (q0 := 0) rfl rfl) hS rfl hl.1 rfl (Nat.le_of_ble_eq_true rfl) dX0_need_3 ⟨Nat.le_of_ble_eq_true rfl, Nat.le_of_ble_eq_true rfl⟩ (fun H locs _ hP hS => ?_)
  refine lv_aload_n hx hb dX0_need_6 rfl (lv_at hl 0 rfl) ?_
  refine lv_iload_n hx hb dX0_need_7 rfl (lv_at hl 1 rfl) ?_
  refine lv_iload_n hx hb dX0_need_8 rfl (lv_at hl 2 rfl) ?_
  refine ro_V (As := [.int (nI g), .int (nI h)]) (rest := []) ⟨hx, hb, hml, hown, hts⟩ (c_X0_needOf l D q F n R cI cZ g h hw hg hh) (cwV 2 hts gX0_need_X0_needOf rfl rfl rfl (by decide +kernel) ⟨Nat.le_of_ble_eq_true rfl, Nat.le_of_ble_eq_true rfl⟩) hK hP hP (va_recv hK hP (ci := 0) (q0 := 0) rfl rfl) hS rfl hl.1 rfl (Nat.le_of_ble_eq_true rfl) dX0_need_9 ⟨Nat.le_of_ble_eq_true rfl, Nat.le_of_ble_eq_true rfl⟩ (fun r H locs hr9 hP hS => ?_)
  subst hr9
  exact W.iret hx hb hr (fun t ht hW => ⟨⟨_, (), rfl, rfl, trivial⟩, hS.F ht⟩) hS.2.2 dX0_need_12
set_option maxHeartbeats 4000000 in
set_option maxRecDepth 100000 in
theorem v_areInBreach (l : Launch) (D : va_G) (q : Nat → Nat) (F : Nat → Nat → Int32) (n : Nat) (R : Nat → Int32) (cI cZ : ClassId) (g : Nat) (h : Nat) (hw : WF F n) (hg : g < n) (hh : h < n) (hne : ¬ g = h) : Met l yX0_areInBreach wsX0_areInBreach ({ frames := 4, cells := 0, slots := 0, locals := 110 }) (va_Pc [.ref (q 9), .int (nI g), .int (nI h)] (rW D (wX q F (nI n) R cI cZ) (tIZ cI cZ))) (RO (fun r => r = bi (sBreach F g (F 7 g) h))) 0 0 nA := by
  refine ro_of (own := RX0) (cc := cX0_areInBreach) (maxL := 3) (ret := (some .boolean)) (by decide) rfl rfl (Nat.le_of_ble_eq_true rfl) ?_
  intro p9 e9 s m9 a9 below meth c9 ls hx hb hr hml hlocks hown hts hP hK hl
  have hin : ∀ w ∈ wsX00, w ∈ wsX0_areInBreach := by decide +kernel
  have f32 := hts (.fieldLink RX0 32 "DangerousGoods" "places" "[I") (by decide +kernel)
  have hS : va_S nA s.heap s.heap [] := va_S.rf
  have hl : lv_has ls 3 [(0, .ref (q 9)), (1, .int (nI g)), (2, .int (nI h))] := hl
  refine lv_aload_n hx hb dX0_areInBreach_0 rfl (lv_at hl 0 rfl) ?_
  refine lv_iload_n hx hb dX0_areInBreach_1 rfl (lv_at hl 1 rfl) ?_
  refine lv_iload_n hx hb dX0_areInBreach_2 rfl (lv_at hl 2 rfl) ?_
  refine ro_Vv (As := [.int (nI g), .int (nI h)]) (rest := []) ⟨hx, hb, hml, hown, hts⟩ (v_checkPair l D q F n R cI cZ g h hg hh hne hw.n) (cwV 2 hts gX0_areInBreach_X0_checkPair rfl rfl rfl (by decide +kernel) ⟨Nat.le_of_ble_eq_true rfl, Nat.le_of_ble_eq_true rfl⟩) hK hP hP (va_recv hK hP (ci := 0) (q0 := 0) rfl rfl) hS rfl hl.1 rfl (Nat.le_of_ble_eq_true rfl) dX0_areInBreach_3 ⟨Nat.le_of_ble_eq_true rfl, Nat.le_of_ble_eq_true rfl⟩ (fun H locs _ hP hS => ?_)
  refine lv_aload_n hx hb dX0_areInBreach_6 rfl (lv_at hl 0 rfl) ?_
  refine lv_iload_n hx hb dX0_areInBreach_7 rfl (lv_at hl 1 rfl) ?_
  refine lv_aload_n hx hb dX0_areInBreach_8 rfl (lv_at hl 0 rfl) ?_
  refine va_get (D := D) (ci := 0) (v := .ref (q 7)) hx hb hts hin hown hK hP 0 rfl rfl 7 (by decide) f32 (fun _ h9 => h9) rfl dX0_areInBreach_9 ?_
  refine lv_iload_n hx hb dX0_areInBreach_12 rfl (lv_at hl 1 rfl) ?_
  refine xiald hx hb hK hP 8 0 rfl rfl (g := g) (hw.g hg) (by decide) dX0_areInBreach_13 ?_
  refine lv_iload_n hx hb dX0_areInBreach_14 rfl (lv_at hl 2 rfl) ?_
  refine ro_V (As := [.int (nI g), .int (F 7 g), .int (nI h)]) (rest := []) ⟨hx, hb, hml, hown, hts⟩ (c_X0_wouldBreach l D q F n R cI cZ g (F 7 g) h hw hg hh) (cwV 3 hts gX0_areInBreach_X0_wouldBreach rfl rfl rfl (by decide +kernel) ⟨Nat.le_of_ble_eq_true rfl, Nat.le_of_ble_eq_true rfl⟩) hK hP hP (va_recv hK hP (ci := 0) (q0 := 0) rfl rfl) hS rfl hl.1 rfl (Nat.le_of_ble_eq_true rfl) dX0_areInBreach_15 ⟨Nat.le_of_ble_eq_true rfl, Nat.le_of_ble_eq_true rfl⟩ (fun r H locs hr9 hP hS => ?_)
  subst hr9
  exact W.zret hx hb hr (bi_nar _) (fun t ht hW => ⟨⟨_, (), rfl, rfl, trivial⟩, hS.F ht⟩) hS.2.2 dX0_areInBreach_18
set_option maxHeartbeats 4000000 in
set_option maxRecDepth 100000 in
theorem v_canPut (l : Launch) (D : va_G) (q : Nat → Nat) (F : Nat → Nat → Int32) (n : Nat) (R : Nat → Int32) (cI cZ : ClassId) (g : Nat) (p : Int32) (hw : WF F n) (hg : g < n) (hp : mIn p 0 47 = true) : Met l yX0_canPut wsX0_canPut ({ frames := 6, cells := 0, slots := 0, locals := 156 }) (va_Pc [.ref (q 9), .int (nI g), .int p] (rW D (wX q F (nI n) R cI cZ) (tIZ cI cZ))) (RO (fun r => r = bi (sClean F n g p))) 0 0 nA := by
  refine ro_of (own := RX0) (cc := cX0_canPut) (maxL := 3) (ret := (some .boolean)) (by decide) rfl rfl (Nat.le_of_ble_eq_true rfl) ?_
  intro p9 e9 s m9 a9 below meth c9 ls hx hb hr hml hlocks hown hts hP hK hl
  have hS : va_S nA s.heap s.heap [] := va_S.rf
  have hl : lv_has ls 3 [(0, .ref (q 9)), (1, .int (nI g)), (2, .int p)] := hl
  refine lv_aload_n hx hb dX0_canPut_0 rfl (lv_at hl 0 rfl) ?_
  refine lv_iload_n hx hb dX0_canPut_1 rfl (lv_at hl 1 rfl) ?_
  refine ro_Vv (As := [.int (nI g)]) (rest := []) ⟨hx, hb, hml, hown, hts⟩ (v_checkGoods l D q F n R cI cZ g hg hw.n) (cwV 1 hts gX0_canPut_X0_checkGoods rfl rfl rfl (by decide +kernel) ⟨Nat.le_of_ble_eq_true rfl, Nat.le_of_ble_eq_true rfl⟩) hK hP hP (va_recv hK hP (ci := 0) (q0 := 0) rfl rfl) hS rfl hl.1 rfl (Nat.le_of_ble_eq_true rfl) dX0_canPut_2 ⟨Nat.le_of_ble_eq_true rfl, Nat.le_of_ble_eq_true rfl⟩ (fun H locs _ hP hS => ?_)
  refine lv_iload_n hx hb dX0_canPut_5 rfl (lv_at hl 2 rfl) ?_
  refine ro_Sv (As := [.int p]) (rest := []) ⟨hx, hb, hml, hown, hts⟩ (v_checkPlace l p hp) (va_cwS 1 hts gX0_canPut_X0_checkPlace rfl rfl rfl (by decide +kernel) ⟨Nat.le_of_ble_eq_true rfl, Nat.le_of_ble_eq_true rfl⟩) hP hS rfl hl.1 rfl (Nat.le_of_ble_eq_true rfl) dX0_canPut_6 ⟨Nat.le_of_ble_eq_true rfl, Nat.le_of_ble_eq_true rfl⟩ (fun H locs _ hP hS => ?_)
  refine lv_aload_n hx hb dX0_canPut_9 rfl (lv_at hl 0 rfl) ?_
  refine lv_iload_n hx hb dX0_canPut_10 rfl (lv_at hl 1 rfl) ?_
  refine lv_iload_n hx hb dX0_canPut_11 rfl (lv_at hl 2 rfl) ?_
  refine ro_V (As := [.int (nI g), .int p]) (rest := []) ⟨hx, hb, hml, hown, hts⟩ (c_X0_wouldBeClean l D q F n R cI cZ g p hw hg (pl_okP hp)) (cwV 2 hts gX0_canPut_X0_wouldBeClean rfl rfl rfl (by decide +kernel) ⟨Nat.le_of_ble_eq_true rfl, Nat.le_of_ble_eq_true rfl⟩) hK hP hP (va_recv hK hP (ci := 0) (q0 := 0) rfl rfl) hS rfl hl.1 rfl (Nat.le_of_ble_eq_true rfl) dX0_canPut_12 ⟨Nat.le_of_ble_eq_true rfl, Nat.le_of_ble_eq_true rfl⟩ (fun r H locs hr9 hP hS => ?_)
  subst hr9
  exact W.zret hx hb hr (bi_nar _) (fun t ht hW => ⟨⟨_, (), rfl, rfl, trivial⟩, hS.F ht⟩) hS.2.2 dX0_canPut_15
set_option maxHeartbeats 4000000 in
set_option maxRecDepth 100000 in
theorem v_placeFor (l : Launch) (D : va_G) (q : Nat → Nat) (F : Nat → Nat → Int32) (n : Nat) (R : Nat → Int32) (cI cZ : ClassId) (g : Nat) (hw : WF F n) (hg : g < n) : Met l yX0_placeFor wsX0_placeFor ({ frames := 6, cells := 0, slots := 0, locals := 156 }) (va_Pc [.ref (q 9), .int (nI g)] (rW D (wX q F (nI n) R cI cZ) (tIZ cI cZ))) (RO (fun r => r = sFor F n g)) 0 0 nA := by
  refine ro_of (own := RX0) (cc := cX0_placeFor) (maxL := 3) (ret := (some .int)) (by decide) rfl rfl (Nat.le_of_ble_eq_true rfl) ?_
  intro p9 e9 s m9 a9 below meth c9 ls hx hb hr hml hlocks hown hts hP hK hl
  have hS : va_S nA s.heap s.heap [] := va_S.rf
  have hl : lv_has ls 3 [(0, .ref (q 9)), (1, .int (nI g))] := hl
  refine lv_aload_n hx hb dX0_placeFor_0 rfl (lv_at hl 0 rfl) ?_
  refine lv_iload_n hx hb dX0_placeFor_1 rfl (lv_at hl 1 rfl) ?_
  refine ro_Vv (As := [.int (nI g)]) (rest := []) ⟨hx, hb, hml, hown, hts⟩ (v_checkGoods l D q F n R cI cZ g hg hw.n) (cwV 1 hts gX0_placeFor_X0_checkGoods rfl rfl rfl (by decide +kernel) ⟨Nat.le_of_ble_eq_true rfl, Nat.le_of_ble_eq_true rfl⟩) hK hP hP (va_recv hK hP (ci := 0) (q0 := 0) rfl rfl) hS rfl hl.1 rfl (Nat.le_of_ble_eq_true rfl) dX0_placeFor_2 ⟨Nat.le_of_ble_eq_true rfl, Nat.le_of_ble_eq_true rfl⟩ (fun H locs _ hP hS => ?_)
  refine lv_iconst (v := 0) hx hb dX0_placeFor_5 (by decide) ?_
  refine lv_istore_n (lv' := [(2, .int 0), (0, .ref (q 9)), (1, .int (nI g))]) hx hb dX0_placeFor_6 rfl hl (by decide) rfl (fun ls hl => ?_)
  have L7 : ∀ (d9 : Nat) (k : Nat) (H : Heap) (locs : List Loc) (ls : Array Slot), 48 - k < d9 → (k ≤ 48) → (lowV (fun k => sClean F n g (nI k)) 0 48 = lowV (fun k => sClean F n g (nI k)) k (48 - k)) → va_P D vwCl (wX q F (nI n) R cI cZ) H → va_S nA s.heap H locs → lv_has ls 3 [(2, .int (nI k)), (0, .ref (q 9)), (1, .int (nI g))] → W p9 l e9 ({ frames := 6, cells := 0, slots := 0, locals := 156 }) s m9 a9 below meth c9 H locs 0 0 (MQ below (RO (fun r => r = sFor F n g)) a9 s 0 0 nA) (F0 m9 7 ls []) := by
    intro d9
    induction d9 with
    | zero => intro k H locs ls h9; exact absurd h9 (Nat.not_lt_zero _)
    | succ d9 ih7 =>
      intro k H locs ls hd7 hk hA hP hS hl
      refine lv_iload_n hx hb dX0_placeFor_7 rfl (lv_at hl 0 rfl) ?_
      refine lv_bipush (v := 48) hx hb dX0_placeFor_8 (by decide) ?_
      refine lv_icmp_ge (x := (nI k)) (y := 48) (tgt := 30) hx hb dX0_placeFor_10 (by decide) (fun c_10 => ?_) (fun c_10 => ?_)
      · have hk10 : k = 48 := Nat.le_antisymm hk (nI_ge_of (n := 48) c_10 (by omega) (by decide))
        refine lv_iconst (v := (-1)) hx hb dX0_placeFor_30 (by decide) ?_
        exact W.iret hx hb hr (fun t ht hW => ⟨⟨_, (), rfl, (by show (-1) = sFor F n g; exact (hA.trans (by rw [hk10]; rfl)).symm), trivial⟩, hS.F ht⟩) hS.2.2 dX0_placeFor_31
      · have hk10 : k < 48 := nI_lt_of (n := 48) c_10 (by omega)
        refine lv_aload_n hx hb dX0_placeFor_13 rfl (lv_at hl 1 rfl) ?_
        refine lv_iload_n hx hb dX0_placeFor_14 rfl (lv_at hl 2 rfl) ?_
        refine lv_iload_n hx hb dX0_placeFor_15 rfl (lv_at hl 0 rfl) ?_
        refine ro_V (As := [.int (nI g), .int (nI k)]) (rest := []) ⟨hx, hb, hml, hown, hts⟩ (c_X0_wouldBeClean l D q F n R cI cZ g (nI k) hw hg (Or.inr ⟨k, hk10, rfl⟩)) (cwV 2 hts gX0_placeFor_X0_wouldBeClean rfl rfl rfl (by decide +kernel) ⟨Nat.le_of_ble_eq_true rfl, Nat.le_of_ble_eq_true rfl⟩) hK hP hP (va_recv hK hP (ci := 0) (q0 := 0) rfl rfl) hS rfl hl.1 rfl (Nat.le_of_ble_eq_true rfl) dX0_placeFor_16 ⟨Nat.le_of_ble_eq_true rfl, Nat.le_of_ble_eq_true rfl⟩ (fun r H locs hr9 hP hS => ?_)
        subst hr9
        refine lv_if_eq (x := (bi (sClean F n g (nI k)))) (tgt := 24) hx hb dX0_placeFor_19 (by decide) (fun c_19 => ?_) (fun c_19 => ?_)
        · have c_19 := bi_e0.mp c_19
          refine lv_iinc (v := (nI (k + 1))) (lv' := [(2, .int (nI (k + 1))), (0, .ref (q 9)), (1, .int (nI g))]) hx hb dX0_placeFor_24 hl (k := 0) rfl (nI_1 k) (by decide) rfl (fun ls hl => ?_)
          refine lv_goto (tgt := 7) hx hb dX0_placeFor_27 (by decide) ?_
          exact ih7 (k + 1) _ _ _ (by omega) (by omega) (hA.trans (lowV_f hk10 (by simpa using c_19))) hP hS (lv_sub hl [0, 1, 2] rfl)
        · have c_19 := bi_n0.mp c_19
          refine lv_iload_n hx hb dX0_placeFor_22 rfl (lv_at hl 0 rfl) ?_
          exact W.iret hx hb hr (fun t ht hW => ⟨⟨_, (), rfl, (by show (nI k) = sFor F n g; exact (hA.trans (lowV_t hk10 c_19)).symm), trivial⟩, hS.F ht⟩) hS.2.2 dX0_placeFor_23
  exact L7 _ 0 _ _ _ (Nat.lt_succ_self _) (Nat.zero_le _) rfl hP hS (lv_sub hl [0, 1, 2] rfl)
set_option maxHeartbeats 4000000 in
set_option maxRecDepth 100000 in
theorem v_put (l : Launch) (D : va_G) (q : Nat → Nat) (F : Nat → Nat → Int32) (n : Nat) (R : Nat → Int32) (cI cZ : ClassId) (sz : Nat) (g : Nat) (x1 : Int32) (hw : WF F n) (hg : g < n) (hp : x1 = -1 ∨ mIn x1 0 47 = true) : Met l yX0_put wsX0_put ({ frames := 2, cells := 0, slots := 0, locals := 42 }) (va_Pc [.ref (q 9), .int (nI g), .int x1] (wS D (wX q F (nI n) R cI cZ) (tIZ cI cZ) sz)) (va_Qi (fun (r : Int32) (u : Nat → Nat → Int32) => r = F 7 g ∧ u = fP F g x1) (wB D (va_A (wX q F (nI n) R cI cZ) sz) (fun (u : Nat → Nat → Int32) => wX q u (nI n) R cI cZ)) (va_A (wX q F (nI n) R cI cZ) sz)) 0 0 (va_A (wX q F (nI n) R cI cZ) sz) := by
  refine wr_of (own := RX0) (cc := cX0_put) (maxL := 4) (ret := (some .int)) (by decide) rfl rfl (Nat.le_of_ble_eq_true rfl) ?_
  intro p9 e9 s m9 a9 below meth c9 ls A hx hb hr hml hlocks hown hts hP hK hD hA hl
  have hin : ∀ w ∈ wsX00, w ∈ wsX0_put := by decide +kernel
  have f32 := hts (.fieldLink RX0 32 "DangerousGoods" "places" "[I") (by decide +kernel)
  have hS : va_S A s.heap s.heap [] := va_S.rf
  have hl : lv_has ls 4 [(0, .ref (q 9)), (1, .int (nI g)), (2, .int x1)] := hl
  refine lv_aload_n hx hb dX0_put_0 rfl (lv_at hl 0 rfl) ?_
  refine lv_iload_n hx hb dX0_put_1 rfl (lv_at hl 1 rfl) ?_
  refine ro_Vv (As := [.int (nI g)]) (rest := []) ⟨hx, hb, hml, hown, hts⟩ (v_checkGoods l D q F n R cI cZ g hg hw.n) (cwV 1 hts gX0_put_X0_checkGoods rfl rfl rfl (by decide +kernel) ⟨Nat.le_of_ble_eq_true rfl, Nat.le_of_ble_eq_true rfl⟩) hK hP hP (va_recv hK hP (ci := 0) (q0 := 0) rfl rfl) hS rfl hl.1 rfl (Nat.le_of_ble_eq_true rfl) dX0_put_2 ⟨Nat.le_of_ble_eq_true rfl, Nat.le_of_ble_eq_true rfl⟩ (fun H locs _ hP hS => ?_)
  refine lv_iload_n hx hb dX0_put_5 rfl (lv_at hl 2 rfl) ?_
  refine lv_iconst (v := (-1)) hx hb dX0_put_6 (by decide) ?_
  refine lv_icmp_eq (x := x1) (y := (-1)) (tgt := 14) hx hb dX0_put_7 (by decide) (fun c_7 => ?_) (fun c_7 => ?_)
  · skip
    refine lv_aload_n hx hb dX0_put_14 rfl (lv_at hl 0 rfl) ?_
    refine va_get (D := D) (ci := 0) (v := .ref (q 7)) hx hb hts hin hown hK hP 0 rfl rfl 7 (by decide) f32 (fun _ h9 => h9) rfl dX0_put_15 ?_
    refine lv_iload_n hx hb dX0_put_18 rfl (lv_at hl 1 rfl) ?_
    refine xiald hx hb hK hP 8 0 rfl rfl (g := g) (hw.g hg) (by decide) dX0_put_19 ?_
    refine lv_istore_n (lv' := [(3, .int (F 7 g)), (0, .ref (q 9)), (1, .int (nI g)), (2, .int x1)]) hx hb dX0_put_20 rfl hl (by decide) rfl (fun ls hl => ?_)
    refine lv_aload_n hx hb dX0_put_21 rfl (lv_at hl 1 rfl) ?_
    refine va_get (D := D) (ci := 0) (v := .ref (q 7)) hx hb hts hin hown hK hP 0 rfl rfl 7 (by decide) f32 (fun _ h9 => h9) rfl dX0_put_22 ?_
    refine lv_iload_n hx hb dX0_put_25 rfl (lv_at hl 2 rfl) ?_
    refine lv_iload_n hx hb dX0_put_26 rfl (lv_at hl 3 rfl) ?_
    refine xiast hx hb hK hP hD hS 8 0 rfl rfl (g := g) (x := x1) (hw.g hg) (by decide) dX0_put_27 (fun H locs hP hD hS => ?_)
    have hP : va_P D vwCl (wX q (uF F 7 (upd (F 7) g x1)) (nI n) R cI cZ) H := hP
    have hD : va_D A (wX q (uF F 7 (upd (F 7) g x1)) (nI n) R cI cZ) := hD
    refine lv_iload_n hx hb dX0_put_28 rfl (lv_at hl 0 rfl) ?_
    exact W.iret hx hb hr (fun t ht hW => ⟨⟨_, (uF F 7 (upd (F 7) g x1)), rfl, (by show (F 7 g) = F 7 g ∧ (uF F 7 (upd (F 7) g x1)) = fP F g x1; exact ⟨rfl, rfl⟩), by rw [ht]; exact hP, hD⟩, hS.F ht⟩) hS.2.2 dX0_put_29
  · skip
    refine lv_iload_n hx hb dX0_put_10 rfl (lv_at hl 2 rfl) ?_
    refine ro_Sv (As := [.int x1]) (rest := []) ⟨hx, hb, hml, hown, hts⟩ (v_checkPlace l x1 (hp.resolve_left c_7)) (va_cwS 1 hts gX0_put_X0_checkPlace rfl rfl rfl (by decide +kernel) ⟨Nat.le_of_ble_eq_true rfl, Nat.le_of_ble_eq_true rfl⟩) hP hS rfl hl.1 rfl (Nat.le_of_ble_eq_true rfl) dX0_put_11 ⟨Nat.le_of_ble_eq_true rfl, Nat.le_of_ble_eq_true rfl⟩ (fun H locs _ hP hS => ?_)
    refine lv_aload_n hx hb dX0_put_14 rfl (lv_at hl 0 rfl) ?_
    refine va_get (D := D) (ci := 0) (v := .ref (q 7)) hx hb hts hin hown hK hP 0 rfl rfl 7 (by decide) f32 (fun _ h9 => h9) rfl dX0_put_15 ?_
    refine lv_iload_n hx hb dX0_put_18 rfl (lv_at hl 1 rfl) ?_
    refine xiald hx hb hK hP 8 0 rfl rfl (g := g) (hw.g hg) (by decide) dX0_put_19 ?_
    refine lv_istore_n (lv' := [(3, .int (F 7 g)), (0, .ref (q 9)), (1, .int (nI g)), (2, .int x1)]) hx hb dX0_put_20 rfl hl (by decide) rfl (fun ls hl => ?_)
    refine lv_aload_n hx hb dX0_put_21 rfl (lv_at hl 1 rfl) ?_
    refine va_get (D := D) (ci := 0) (v := .ref (q 7)) hx hb hts hin hown hK hP 0 rfl rfl 7 (by decide) f32 (fun _ h9 => h9) rfl dX0_put_22 ?_
    refine lv_iload_n hx hb dX0_put_25 rfl (lv_at hl 2 rfl) ?_
    refine lv_iload_n hx hb dX0_put_26 rfl (lv_at hl 3 rfl) ?_
    refine xiast hx hb hK hP hD hS 8 0 rfl rfl (g := g) (x := x1) (hw.g hg) (by decide) dX0_put_27 (fun H locs hP hD hS => ?_)
    have hP : va_P D vwCl (wX q (uF F 7 (upd (F 7) g x1)) (nI n) R cI cZ) H := hP
    have hD : va_D A (wX q (uF F 7 (upd (F 7) g x1)) (nI n) R cI cZ) := hD
    refine lv_iload_n hx hb dX0_put_28 rfl (lv_at hl 0 rfl) ?_
    exact W.iret hx hb hr (fun t ht hW => ⟨⟨_, (uF F 7 (upd (F 7) g x1)), rfl, (by show (F 7 g) = F 7 g ∧ (uF F 7 (upd (F 7) g x1)) = fP F g x1; exact ⟨rfl, rfl⟩), by rw [ht]; exact hP, hD⟩, hS.F ht⟩) hS.2.2 dX0_put_29

/-! own words: numbers, rows of a state, worlds, rows of the walk -/
abbrev HV : Type := Nat → Nat → Int32
abbrev KX : Type := va_G × (Nat → ClassId)
abbrev kt (K : KX) : List (ClassId × FieldType) := [(K.2 0, .int), (K.2 1, .boolean), (K.2 2, .char), (K.2 3, .object "StandIns$House"), (K.2 4, .int)]
abbrev aI (K : KX) (n : Nat) (f : Nat → Int32) : va_E := .inl (K.2 0, n, .inl f)
abbrev aZ (K : KX) (n : Nat) (f : Nat → Int32) : va_E := .inl (K.2 1, n, .inl f)
abbrev aC (K : KX) (n : Nat) (f : Nat → Int32) : va_E := .inl (K.2 2, n, .inl f)
abbrev aQ (K : KX) (n : Nat) (f : Nat → Option Nat) : va_E := .inl (K.2 3, n, .inr (.inr (.inr (.inr f))))
abbrev aL (K : KX) (n : Nat) (f : Nat → Int64) : va_E := .inl (K.2 4, n, .inr (.inl f))
def hrow (S : HV) (k : Nat) (f : Nat → Int32) : HV := fun k' => bif Nat.beq k' k then f else S k'
abbrev hset (S : HV) (k i : Nat) (v : Int32) : HV := hrow S k (upd (S k) i v)
abbrev hput (S : HV) (k : Nat) (v : Int32) : HV := hrow S k (fun _ => v)
theorem hrow_self (S : HV) (k : Nat) (f : Nat → Int32) : hrow S k f k = f := by simp [hrow]
theorem hrow_ne (S : HV) {k j : Nat} (f : Nat → Int32) (h : j ≠ k) : hrow S k f j = S j := by
  unfold hrow
  cases hb : Nat.beq j k
  · rfl
  · exact absurd (Nat.eq_of_beq_eq_true hb) h
/-- a truth as a number -/
def bI (p : Prop) [Decidable p] : Int32 := if p then 1 else 0
theorem bI_t {p : Prop} [Decidable p] (h : p) : bI p = 1 := if_pos h
theorem bI_f {p : Prop} [Decidable p] (h : ¬ p) : bI p = 0 := if_neg h
theorem bI_eq0 {p : Prop} [Decidable p] : bI p = 0 ↔ ¬ p := by
  unfold bI
  split <;> simp [*]
theorem bI_or {p : Prop} [Decidable p] : bI p = 0 ∨ bI p = 1 := by
  unfold bI
  split <;> simp
theorem bI_narrow {p : Prop} [Decidable p] : narrow .boolean (.int (bI p)) = .int (bI p) := by
  unfold bI
  split <;> rfl
theorem nn_add {x y : Int32} {a b : Nat} (hx : x = nI a) (hy : y = nI b) : x + y = nI (a + b) := by rw [hx, hy, nI_add]
theorem nn_mul {x y : Int32} {a b : Nat} (hx : x = nI a) (hy : y = nI b) : x * y = nI (a * b) := by rw [hx, hy, pk_mul]
theorem nn_sub {x y : Int32} {a b : Nat} (hx : x = nI a) (hy : y = nI b) (h : b ≤ a) : x - y = nI (a - b) := by rw [hx, hy, pk_sub h]
theorem bI_cong {p q : Prop} [Decidable p] [Decidable q] (h : p ↔ q) : bI p = bI q := by
  unfold bI
  simp [h]
theorem nn_pred {x y : Int32} {R : Nat} (hy : y = nI R) (hR : R < 2 ^ 30) : x ≤ y - 1 ↔ x < y := by
  subst hy
  have h1 := pk_sub_toInt (a := R) (b := 1) hR (by decide)
  rw [Int32.le_iff_toInt_le, Int32.lt_iff_toInt_lt, nI_toInt (by omega), show nI R - 1 = nI R - nI 1 from rfl, h1]
  omega
theorem nn_le {x y : Int32} {a b : Nat} (hx : x = nI a) (hy : y = nI b) (ha : a < 2 ^ 31) (hb : b < 2 ^ 31) : x ≤ y ↔ a ≤ b := by rw [hx, hy, nI_leI ha hb]
theorem nn_lt {x y : Int32} {a b : Nat} (hx : x = nI a) (hy : y = nI b) (ha : a < 2 ^ 31) (hb : b < 2 ^ 31) : x < y ↔ a < b := by rw [hx, hy, nI_ltI ha hb]
theorem nn_eq {x y : Int32} {a b : Nat} (hx : x = nI a) (hy : y = nI b) (ha : a < 2 ^ 31) (hb : b < 2 ^ 31) : x = y ↔ a = b := by rw [hx, hy, nI_eq ha hb]
/-- an array's cell speaks of its own places alone -/
theorem arr_ext (cA : ClassId) (n : Nat) {f g : Nat → Int32} (h : ∀ j, j < n → f j = g j) : vp_cell cA (n, .inl f) = vp_cell cA (n, .inl g) := by
  rw [vp_cell_i, vp_cell_i]
  unfold arrV
  congr 1
  apply Array.ext
  · simp
  · intro i h1 h2
    simp at h1
    simp [h i h1]
/-- a place of a world said otherwise -/
theorem P_ext {D : va_G} {cl : List vw_C} {ws : va_W} {H : Heap} (h : va_P D cl ws H) (q0 : Nat) {a : Nat} {cA : ClassId} {n : Nat} {f g : Nat → Int32} (ha : ws[q0]? = some (a, .inl (cA, n, .inl f))) (hfg : ∀ j, j < n → f j = g j) : va_P D cl (ws.set q0 (a, .inl (cA, n, .inl g))) H := by
  intro k q hk
  have hl : q0 < ws.length := (List.getElem?_eq_some_iff.mp ha).1
  by_cases hkq : k = q0
  · subst hkq
    rw [List.getElem?_set_self hl] at hk
    cases hk
    have h1 := h k _ ha
    show H[a]? = some (vp_cell cA (n, .inl g))
    rw [← arr_ext cA n hfg]
    exact h1
  · rw [List.getElem?_set_ne (Ne.symm hkq)] at hk
    exact h k q hk
/-- a house, a casting, a text, the model: its cells -/
abbrev hw (K : KX) (h : Nat) (a : Nat → Nat) (S : HV) : va_W := [(h, .inr (2, [.ref (a 0), .ref (a 1), .ref (a 2), .ref (a 3), .ref (a 4), .ref (a 5), .ref (a 6), .ref (a 7), .ref (a 8), .ref (a 9), .int (S 10 0), .int (S 11 0), .int (S 12 0), .int (S 13 0), .int (S 14 0), .int (S 15 0), .int (S 16 0)])), (a 0, aI K 6 (S 0)), (a 1, aI K 6 (S 1)), (a 2, aI K 6 (S 2)), (a 3, aI K 60 (S 3)), (a 4, aI K 60 (S 4)), (a 5, aI K 10 (S 5)), (a 6, aI K 10 (S 6)), (a 7, aI K 10 (S 7)), (a 8, aI K 10 (S 8)), (a 9, aI K 5 (S 9))]
abbrev cw (K : KX) (h : Nat) (a : Nat → Nat) (S : HV) : va_W := [(h, .inr (0, [.ref (a 0), .ref (a 1), .ref (a 2), .int (S 3 0), .int (S 4 0), .int (S 5 0)])), (a 0, aI K 1024 (S 0)), (a 1, aI K 60 (S 1)), (a 2, aI K 6 (S 2))]
abbrev tw (K : KX) (h : Nat) (a : Nat → Nat) (S : HV) : va_W := [(h, .inr (3, [.ref (a 0), .int (S 1 0)])), (a 0, aC K 120 (S 0))]
abbrev mw (K : KX) (h : Nat) (a : Nat → Nat) (S : HV) : va_W := [(h, .inr (6, [.ref (a 0), .ref (a 1), .ref (a 2), .int (S 3 0), .ref (a 4), .ref (a 5), .ref (a 6), .int (S 7 0), .int (S 8 0), .ref (a 9), .ref (a 10), .ref (a 11), .int (S 12 0), .int (S 13 0)])), (a 0, aI K 190 (S 0)), (a 1, aI K 190 (S 1)), (a 2, aI K 2660 (S 2)), (a 4, aI K 380 (S 4)), (a 5, aZ K 2 (S 5)), (a 6, aI K 120 (S 6)), (a 9, aI K 1024 (S 9)), (a 10, aI K 6 (S 10)), (a 11, aI K 484 (S 11))]
def xRead (K : KX) (ws : va_W) (U : State) : Prop := va_P K.1 vwCl ws U.heap ∧ va_K K.1 vwCl (kt K) U
def xPre (K : KX) (ws : va_W) (sz : Nat) (U : State) : Prop := U.heap.size = sz ∧ va_P K.1 vwCl ws U.heap ∧ va_K K.1 vwCl (kt K) U ∧ va_D (fun _ => True) ws
def xPost (K : KX) (A : Nat → Prop) (ws : va_W) (t : State) : Prop := va_P K.1 vwCl ws t.heap ∧ va_K K.1 vwCl (kt K) t ∧ va_D A ws
theorem xRead_blind (K : KX) (ws : va_W) (av : List Value) : FrameBlind (va_Pc av (xRead K ws)) := by
  intro a U g mk h
  exact ⟨h.1, h.2.1, va_K.moved (u := U) (U := U.calling g mk a) (Vm.Alike.refl U.vm) h.2.2⟩
theorem xPre_blind (K : KX) (ws : va_W) (sz : Nat) (av : List Value) : FrameBlind (va_Pc av (xPre K ws sz)) := by
  intro a U g mk h
  exact ⟨h.1, h.2.1, h.2.2.1, va_K.moved (u := U) (U := U.calling g mk a) (Vm.Alike.refl U.vm) h.2.2.2.1, h.2.2.2.2⟩
theorem fm_of_map {α β : Type} {f : α → Option β} : ∀ {is : List α} {w : List β}, is.map f = w.map some → is.filterMap f = w
  | [], [], _ => rfl
  | [], _ :: _, h => by simp at h
  | _ :: _, [], h => by simp at h
  | i :: is, x :: w, h => by
    simp only [List.map_cons, List.cons.injEq] at h
    rw [List.filterMap_cons, h.1]
    simp [fm_of_map h.2]
theorem P_sub {D : va_G} {cl : List vw_C} {ws ws' : va_W} {H : Heap} (h : va_P D cl ws H) (is : List Nat) (hs : is.map (fun i => ws[i]?) = ws'.map some) : va_P D cl ws' H := h.sub is (fm_of_map hs)
/-- the place lists of a call are in order -/
def x_ok (isC isR perm : List Nat) : Bool := va_nd isC && va_nd isR && isR.all (fun i => !isC.contains i) && va_nd perm
theorem x_ok_spec {isC isR perm : List Nat} (h : x_ok isC isR perm = true) : va_nd isC = true ∧ va_nd isR = true ∧ (∀ i ∈ isR, i ∉ isC) ∧ va_nd perm = true := by
  unfold x_ok at h
  simp only [Bool.and_eq_true, List.all_eq_true, Bool.not_eq_true', List.contains_eq_mem, decide_eq_false_iff_not] at h
  exact ⟨h.1.1.1, h.1.1.2, h.1.2, h.2⟩
theorem lv_nil {ls : Array Slot} {n : Nat} {l : List (Nat × Value)} (h : lv_has ls n l) : lv_has ls n [] := ⟨h.1, h.2.1, fun _ q => by cases q⟩
theorem lv_cons {ls : Array Slot} {n i : Nat} {v : Value} {l : List (Nat × Value)} (h0 : ls[i]? = some (.val v)) (h : lv_has ls n l) : lv_has ls n ((i, v) :: l) := ⟨h.1, h.2.1, List.forall_mem_cons.mpr ⟨h0, h.2.2⟩⟩
theorem lv_is {ls : Array Slot} {i : Nat} {x y : Int32} (h : ls[i]? = some (.val (.int x))) (e : x = y) : ls[i]? = some (.val (.int y)) := e ▸ h
theorem lv_isL {ls : Array Slot} {i : Nat} {x y : Int64} (h : ls[i]? = some (.val (.long x))) (e : x = y) : ls[i]? = some (.val (.long y)) := e ▸ h
theorem nn_div {x y : Int32} {a b : Nat} (hx : x = nI a) (hy : y = nI b) (ha : a < 2 ^ 31) (h0 : 0 < b) (hb : b < 2 ^ 31) : x / y = nI (a / b) := by rw [hx, hy, pk_div ha h0 hb]
theorem nn_rem {x y : Int32} {a b : Nat} (hx : x = nI a) (hy : y = nI b) (ha : a < 2 ^ 31) (h0 : 0 < b) (hb : b < 2 ^ 31) : x - x / y * y = nI (a % b) := by rw [hx, hy, pk_rem ha h0 hb]
section XR
variable {p : Program} {l : Launch} {e : Env} {R : Room} {s : State} {m : MethodId} {args : Array Value} {below : List Frame} {meth : Method} {c : Code} {H : Heap} {locs : List Loc} {cells slots : Nat} {Q : State → Prop}
variable {cc : ByteArray} {pc : Nat} {ls : Array Slot} {rest : List Value} {K : KX} {A : Nat → Prop} {a : Nat} {ws : va_W} {H0 : Heap}
/-- starts of methods that only read, and of methods that write; their ends come with them -/
theorem xr_starti {y : MethodName} {ws9 ws' : List Cond} {rm : Room} {maxL : Nat} {av : List Value} {wk : va_W} {x : Int32} (hy : plainName y.cls = true) (hw : ws9 = Cond.code y cc maxL (some .int) :: ws') (hlen : (lg_sl av).length ≤ maxL)
    (body : ∀ (p : Program) (e : Env) (s : State) (m : MethodId) (below : List Frame) (meth : Method) (c : Code) (H : Heap) (ls : Array Slot) (av9 : Array Value) (Q9 : State → Prop), p.tables.exec = Jvm.exec → c.code = cc → meth.locks = false → c.maxLocals = maxL → (∀ w ∈ ws9, w.before av9 s = true) → s.vm.findClass y.cls = some m.cls → va_K K.1 vwCl (kt K) s → va_P K.1 vwCl wk H →
      (∀ (v : Int32) (pc : Nat) (ls : Array Slot), v = x → decode cc pc = .ok (.ireturn, 1) → W p l e rm s m av9 below meth c H [] 0 0 Q9 (F0 m pc ls [.int v])) → lv_has ls maxL (lv_args 0 av) →
      W p l e rm s m av9 below meth c H [] 0 0 Q9 (F0 m 0 ls [])) : Met l y ws9 rm (va_Pc av (xRead K wk)) (vp_Si (fun r => r = x)) 0 0 (fun _ => False) := by
  refine Met.ofW (cc := cc) (maxL := maxL) (ret := (some .int)) hy hw ?_
  intro p e s m args below meth c s₁ B hml hv
  obtain ⟨rfl, hP, hK⟩ := hv
  rw [lg_entry_eq]
  exact body p e s m below meth c _ _ _ _ B.exec B.bytes B.notSynchronized hml (atoms_spec (ws := ws9) B.pre) (findClass_of_methodNamed B.named) hK hP (fun v pc ls hq hdg => W.iret B.exec B.bytes B.returns (fun t ht _ => ⟨v, rfl, hq, ht⟩) (fun _ h => by cases h) hdg B.notSynchronized) (lv_entry av hlen)
theorem xr_startz {y : MethodName} {ws9 ws' : List Cond} {rm : Room} {maxL : Nat} {ret : FieldType} {av : List Value} {wk : va_W} {x : Int32} (hy : plainName y.cls = true) (hw : ws9 = Cond.code y cc maxL (some ret) :: ws') (hlen : (lg_sl av).length ≤ maxL)
    (body : ∀ (p : Program) (e : Env) (s : State) (m : MethodId) (below : List Frame) (meth : Method) (c : Code) (H : Heap) (ls : Array Slot) (av9 : Array Value) (Q9 : State → Prop), p.tables.exec = Jvm.exec → c.code = cc → meth.locks = false → c.maxLocals = maxL → (∀ w ∈ ws9, w.before av9 s = true) → s.vm.findClass y.cls = some m.cls → va_K K.1 vwCl (kt K) s → va_P K.1 vwCl wk H →
      (∀ (v : Int32) (pc : Nat) (ls : Array Slot), narrow ret (.int v) = .int v → v = x → decode cc pc = .ok (.ireturn, 1) → W p l e rm s m av9 below meth c H [] 0 0 Q9 (F0 m pc ls [.int v])) → lv_has ls maxL (lv_args 0 av) →
      W p l e rm s m av9 below meth c H [] 0 0 Q9 (F0 m 0 ls [])) : Met l y ws9 rm (va_Pc av (xRead K wk)) (vp_Si (fun r => r = x)) 0 0 (fun _ => False) := by
  refine Met.ofW (cc := cc) (maxL := maxL) (ret := (some ret)) hy hw ?_
  intro p e s m args below meth c s₁ B hml hv
  obtain ⟨rfl, hP, hK⟩ := hv
  rw [lg_entry_eq]
  exact body p e s m below meth c _ _ _ _ B.exec B.bytes B.notSynchronized hml (atoms_spec (ws := ws9) B.pre) (findClass_of_methodNamed B.named) hK hP (fun v pc ls hn hq hdg => W.zret B.exec B.bytes B.returns hn (fun t ht _ => ⟨v, rfl, hq, ht⟩) (fun _ h => by cases h) hdg B.notSynchronized) (lv_entry av hlen)
theorem xr_startl {y : MethodName} {ws9 ws' : List Cond} {rm : Room} {maxL : Nat} {av : List Value} {wk : va_W} {x : Int64} (hy : plainName y.cls = true) (hw : ws9 = Cond.code y cc maxL (some .long) :: ws') (hlen : (lg_sl av).length ≤ maxL)
    (body : ∀ (p : Program) (e : Env) (s : State) (m : MethodId) (below : List Frame) (meth : Method) (c : Code) (H : Heap) (ls : Array Slot) (av9 : Array Value) (Q9 : State → Prop), p.tables.exec = Jvm.exec → c.code = cc → meth.locks = false → c.maxLocals = maxL → (∀ w ∈ ws9, w.before av9 s = true) → s.vm.findClass y.cls = some m.cls → va_K K.1 vwCl (kt K) s → va_P K.1 vwCl wk H →
      (∀ (v : Int64) (pc : Nat) (ls : Array Slot), v = x → decode cc pc = .ok (.lreturn, 1) → W p l e rm s m av9 below meth c H [] 0 0 Q9 (F0 m pc ls [.long v])) → lv_has ls maxL (lv_args 0 av) →
      W p l e rm s m av9 below meth c H [] 0 0 Q9 (F0 m 0 ls [])) : Met l y ws9 rm (va_Pc av (xRead K wk)) (vp_Sl (fun r => r = x)) 0 0 (fun _ => False) := by
  refine Met.ofW (cc := cc) (maxL := maxL) (ret := (some .long)) hy hw ?_
  intro p e s m args below meth c s₁ B hml hv
  obtain ⟨rfl, hP, hK⟩ := hv
  rw [lg_entry_eq]
  exact body p e s m below meth c _ _ _ _ B.exec B.bytes B.notSynchronized hml (atoms_spec (ws := ws9) B.pre) (findClass_of_methodNamed B.named) hK hP (fun v pc ls hq hdg => W.lret B.exec B.bytes B.returns (fun t ht _ => ⟨v, rfl, hq, ht⟩) (fun _ h => by cases h) hdg B.notSynchronized) (lv_entry av hlen)
theorem xw_starti {S9 : Type} {post : Int32 → S9 → Prop} {w1 : S9 → va_W} {y : MethodName} {ws9 ws' : List Cond} {rm : Room} {maxL mc ms sz : Nat} {av : List Value} {wk : va_W} (hy : plainName y.cls = true) (hw : ws9 = Cond.code y cc maxL (some .int) :: ws') (hlen : (lg_sl av).length ≤ maxL)
    (body : ∀ (p : Program) (e : Env) (s : State) (m : MethodId) (below : List Frame) (meth : Method) (c : Code) (H : Heap) (locs : List Loc) (ls : Array Slot) (A : Nat → Prop) (av9 : Array Value) (Q9 : State → Prop), p.tables.exec = Jvm.exec → c.code = cc → meth.locks = false → c.maxLocals = maxL → meth.name = y.name → (∀ w ∈ ws9, w.before av9 s = true) → s.vm.findClass y.cls = some m.cls → va_K K.1 vwCl (kt K) s → va_P K.1 vwCl wk H → va_D A wk → va_S A s.heap H locs → (∀ q : Nat, s.heap.size ≤ q → A q) → A = va_A wk sz →
      (∀ (H1 : Heap) (locs1 : List Loc) (cells slots pc : Nat) (ls : Array Slot) (v : Int32) (u : S9), va_P K.1 vwCl (w1 u) H1 → va_D A (w1 u) → va_S A s.heap H1 locs1 → cells ≤ mc → slots ≤ ms → post v u → decode cc pc = .ok (.ireturn, 1) → W p l e rm s m av9 below meth c H1 locs1 cells slots Q9 (F0 m pc ls [.int v])) → lv_has ls maxL (lv_args 0 av) →
      W p l e rm s m av9 below meth c H locs 0 0 Q9 (F0 m 0 ls [])) : Met l y ws9 rm (va_Pc av (xPre K wk sz)) (va_Qi post (fun u t => xPost K (va_A wk sz) (w1 u) t) (va_A wk sz)) mc ms (va_A wk sz) := by
  refine Met.ofW (cc := cc) (maxL := maxL) (ret := (some .int)) hy hw ?_
  intro p e s m args below meth c s₁ B hml hv
  obtain ⟨rfl, hsz, hP, hK, hD⟩ := hv
  rw [lg_entry_eq]
  exact body p e s m below meth c _ _ _ _ _ _ B.exec B.bytes B.notSynchronized hml (name_of_methodNamed B.named B.method).1 (atoms_spec (ws := ws9) B.pre) (findClass_of_methodNamed B.named) hK hP hD.self va_S.rf (fun q h => Or.inr (by omega)) rfl (fun H1 locs1 cells slots pc ls v u hP hD hS hc hs hq hdg => W.widen hc hs (W.iret B.exec B.bytes B.returns (fun t ht hW => ⟨⟨v, u, rfl, hq, by rw [ht]; exact hP, va_K.moved hW.alike hK, hD⟩, hS.F ht⟩) hS.2.2 hdg B.notSynchronized)) (lv_entry av hlen)
theorem xw_startz {S9 : Type} {post : Int32 → S9 → Prop} {w1 : S9 → va_W} {y : MethodName} {ws9 ws' : List Cond} {rm : Room} {maxL mc ms sz : Nat} {ret : FieldType} {av : List Value} {wk : va_W} (hy : plainName y.cls = true) (hw : ws9 = Cond.code y cc maxL (some ret) :: ws') (hlen : (lg_sl av).length ≤ maxL)
    (body : ∀ (p : Program) (e : Env) (s : State) (m : MethodId) (below : List Frame) (meth : Method) (c : Code) (H : Heap) (locs : List Loc) (ls : Array Slot) (A : Nat → Prop) (av9 : Array Value) (Q9 : State → Prop), p.tables.exec = Jvm.exec → c.code = cc → meth.locks = false → c.maxLocals = maxL → meth.name = y.name → (∀ w ∈ ws9, w.before av9 s = true) → s.vm.findClass y.cls = some m.cls → va_K K.1 vwCl (kt K) s → va_P K.1 vwCl wk H → va_D A wk → va_S A s.heap H locs → (∀ q : Nat, s.heap.size ≤ q → A q) → A = va_A wk sz →
      (∀ (H1 : Heap) (locs1 : List Loc) (cells slots pc : Nat) (ls : Array Slot) (v : Int32), narrow ret (.int v) = .int v → ∀ (u : S9), va_P K.1 vwCl (w1 u) H1 → va_D A (w1 u) → va_S A s.heap H1 locs1 → cells ≤ mc → slots ≤ ms → post v u → decode cc pc = .ok (.ireturn, 1) → W p l e rm s m av9 below meth c H1 locs1 cells slots Q9 (F0 m pc ls [.int v])) → lv_has ls maxL (lv_args 0 av) →
      W p l e rm s m av9 below meth c H locs 0 0 Q9 (F0 m 0 ls [])) : Met l y ws9 rm (va_Pc av (xPre K wk sz)) (va_Qi post (fun u t => xPost K (va_A wk sz) (w1 u) t) (va_A wk sz)) mc ms (va_A wk sz) := by
  refine Met.ofW (cc := cc) (maxL := maxL) (ret := (some ret)) hy hw ?_
  intro p e s m args below meth c s₁ B hml hv
  obtain ⟨rfl, hsz, hP, hK, hD⟩ := hv
  rw [lg_entry_eq]
  exact body p e s m below meth c _ _ _ _ _ _ B.exec B.bytes B.notSynchronized hml (name_of_methodNamed B.named B.method).1 (atoms_spec (ws := ws9) B.pre) (findClass_of_methodNamed B.named) hK hP hD.self va_S.rf (fun q h => Or.inr (by omega)) rfl (fun H1 locs1 cells slots pc ls v hn u hP hD hS hc hs hq hdg => W.widen hc hs (W.zret B.exec B.bytes B.returns hn (fun t ht hW => ⟨⟨v, u, rfl, hq, by rw [ht]; exact hP, va_K.moved hW.alike hK, hD⟩, hS.F ht⟩) hS.2.2 hdg B.notSynchronized)) (lv_entry av hlen)
theorem xw_startv {S9 : Type} {post : S9 → Prop} {w1 : S9 → va_W} {y : MethodName} {ws9 ws' : List Cond} {rm : Room} {maxL mc ms sz : Nat} {av : List Value} {wk : va_W} (hy : plainName y.cls = true) (hw : ws9 = Cond.code y cc maxL none :: ws') (hlen : (lg_sl av).length ≤ maxL)
    (body : ∀ (p : Program) (e : Env) (s : State) (m : MethodId) (below : List Frame) (meth : Method) (c : Code) (H : Heap) (locs : List Loc) (ls : Array Slot) (A : Nat → Prop) (av9 : Array Value) (Q9 : State → Prop), p.tables.exec = Jvm.exec → c.code = cc → meth.locks = false → c.maxLocals = maxL → meth.name = y.name → (∀ w ∈ ws9, w.before av9 s = true) → s.vm.findClass y.cls = some m.cls → va_K K.1 vwCl (kt K) s → va_P K.1 vwCl wk H → va_D A wk → va_S A s.heap H locs → (∀ q : Nat, s.heap.size ≤ q → A q) → A = va_A wk sz →
      (∀ (H1 : Heap) (locs1 : List Loc) (cells slots pc : Nat) (ls : Array Slot) (u : S9), va_P K.1 vwCl (w1 u) H1 → va_D A (w1 u) → va_S A s.heap H1 locs1 → cells ≤ mc → slots ≤ ms → post u → decode cc pc = .ok (.return_, 1) → W p l e rm s m av9 below meth c H1 locs1 cells slots Q9 (F0 m pc ls [])) → lv_has ls maxL (lv_args 0 av) →
      W p l e rm s m av9 below meth c H locs 0 0 Q9 (F0 m 0 ls [])) : Met l y ws9 rm (va_Pc av (xPre K wk sz)) (va_Qv post (fun u t => xPost K (va_A wk sz) (w1 u) t) (va_A wk sz)) mc ms (va_A wk sz) := by
  refine Met.ofW (cc := cc) (maxL := maxL) (ret := none) hy hw ?_
  intro p e s m args below meth c s₁ B hml hv
  obtain ⟨rfl, hsz, hP, hK, hD⟩ := hv
  rw [lg_entry_eq]
  exact body p e s m below meth c _ _ _ _ _ _ B.exec B.bytes B.notSynchronized hml (name_of_methodNamed B.named B.method).1 (atoms_spec (ws := ws9) B.pre) (findClass_of_methodNamed B.named) hK hP hD.self va_S.rf (fun q h => Or.inr (by omega)) rfl (fun H1 locs1 cells slots pc ls u hP hD hS hc hs hq hdg => W.widen hc hs (W.vret B.exec B.bytes B.returns (fun t ht hW => ⟨⟨u, rfl, hq, by rw [ht]; exact hP, va_K.moved hW.alike hK, hD⟩, hS.F ht⟩) hS.2.2 hdg B.notSynchronized)) (lv_entry av hlen)
/-- array places by their numbers -/
theorem xi_ld (hx : p.tables.exec = Jvm.exec) (hb : c.code = cc) (hK : va_K K.1 vwCl (kt K) s) (hP : va_P K.1 vwCl ws H) (q0 : Nat) {n : Nat} {f : Nat → Int32} (ha : ws[q0]? = some (a, aI K n f)) {i : Int32} (j : Nat) (hi : i = nI j) (hj : j < n) (hn : n < 2 ^ 31) (hdg : decode cc pc = .ok (.iaload, 1))
    (kk : W p l e R s m args below meth c H locs cells slots Q (F0 m (pc + 1) ls (.int (f j) :: rest))) : W p l e R s m args below meth c H locs cells slots Q (F0 m pc ls (.int i :: .ref a :: rest)) := by
  subst hi
  refine va_iald hx hb hK hP q0 0 ha rfl (vp_in_nI hj hn) hdg ?_
  rw [nI_clamp (Nat.lt_trans hj hn)]
  exact kk
theorem xz_ld (hx : p.tables.exec = Jvm.exec) (hb : c.code = cc) (hK : va_K K.1 vwCl (kt K) s) (hP : va_P K.1 vwCl ws H) (q0 : Nat) {n : Nat} {f : Nat → Int32} (ha : ws[q0]? = some (a, aZ K n f)) {i : Int32} (j : Nat) (hi : i = nI j) (hj : j < n) (hn : n < 2 ^ 31) (hdg : decode cc pc = .ok (.baload, 1))
    (kk : W p l e R s m args below meth c H locs cells slots Q (F0 m (pc + 1) ls (.int (f j) :: rest))) : W p l e R s m args below meth c H locs cells slots Q (F0 m pc ls (.int i :: .ref a :: rest)) := by
  subst hi
  refine va_zald hx hb hK hP q0 1 ha rfl (vp_in_nI hj hn) hdg ?_
  rw [nI_clamp (Nat.lt_trans hj hn)]
  exact kk
theorem xc_ld (hx : p.tables.exec = Jvm.exec) (hb : c.code = cc) (hK : va_K K.1 vwCl (kt K) s) (hP : va_P K.1 vwCl ws H) (q0 : Nat) {n : Nat} {f : Nat → Int32} (ha : ws[q0]? = some (a, aC K n f)) {i : Int32} (j : Nat) (hi : i = nI j) (hj : j < n) (hn : n < 2 ^ 31) (hdg : decode cc pc = .ok (.caload, 1))
    (kk : W p l e R s m args below meth c H locs cells slots Q (F0 m (pc + 1) ls (.int (f j) :: rest))) : W p l e R s m args below meth c H locs cells slots Q (F0 m pc ls (.int i :: .ref a :: rest)) := by
  subst hi
  refine va_cald hx hb hK hP q0 2 ha rfl (vp_in_nI hj hn) hdg ?_
  rw [nI_clamp (Nat.lt_trans hj hn)]
  exact kk
theorem xi_st (hx : p.tables.exec = Jvm.exec) (hb : c.code = cc) (hK : va_K K.1 vwCl (kt K) s) (hP : va_P K.1 vwCl ws H) (hD : va_D A ws) (hS : va_S A H0 H locs) (q0 : Nat) {n : Nat} {f : Nat → Int32} (ha : ws[q0]? = some (a, aI K n f)) {i x : Int32} (j : Nat) (hi : i = nI j) (hj : j < n) (hn : n < 2 ^ 31) (wn : va_W) (hwn : ws.set q0 (a, aI K n (upd f j x)) = wn) (hdg : decode cc pc = .ok (.iastore, 1))
    (kk : ∀ (H1 : Heap) (locs1 : List Loc), va_P K.1 vwCl wn H1 → va_D A wn → va_S A H0 H1 locs1 → W p l e R s m args below meth c H1 locs1 cells slots Q (F0 m (pc + 1) ls rest)) : W p l e R s m args below meth c H locs cells slots Q (F0 m pc ls (.int x :: .int i :: .ref a :: rest)) := by
  subst hi
  subst hwn
  refine va_iast hx hb hK hP hD hS q0 0 ha rfl (vp_in_nI hj hn) hdg (fun H1 locs1 h1 h2 h3 => ?_)
  rw [nI_clamp (Nat.lt_trans hj hn)] at h1 h2
  exact kk H1 locs1 h1 h2 h3
/-- branches on numbers -/
theorem xn_icmp_ge (hx : p.tables.exec = Jvm.exec) (hb : c.code = cc) {x y : Int32} {off : Int} {tgt : Nat} (i j : Nat) (ex : x = nI i) (ey : y = nI j) (hi : i < 2 ^ 31) (hj : j < 2 ^ 31) (hdg : decode cc pc = .ok (.if_icmp .ge off, 3)) (ht : (pc : Int) + off = (tgt : Int)) (kt : j ≤ i → W p l e R s m args below meth c H locs cells slots Q (F0 m tgt ls rest)) (kf : i < j → W p l e R s m args below meth c H locs cells slots Q (F0 m (pc + 3) ls rest)) : W p l e R s m args below meth c H locs cells slots Q (F0 m pc ls (.int y :: .int x :: rest)) :=
  lv_icmp_ge hx hb hdg ht (fun h => kt ((nn_le ey ex hj hi).mp h)) (fun h => kf (Nat.lt_of_not_le fun q => h ((nn_le ey ex hj hi).mpr q)))
theorem xn_if_eq (hx : p.tables.exec = Jvm.exec) (hb : c.code = cc) {x : Int32} {off : Int} {tgt : Nat} (i : Nat) (ex : x = nI i) (hi : i < 2 ^ 31) (hdg : decode cc pc = .ok (.ifCond .eq off, 3)) (ht : (pc : Int) + off = (tgt : Int)) (kt : i = 0 → W p l e R s m args below meth c H locs cells slots Q (F0 m tgt ls rest)) (kf : i ≠ 0 → W p l e R s m args below meth c H locs cells slots Q (F0 m (pc + 3) ls rest)) : W p l e R s m args below meth c H locs cells slots Q (F0 m pc ls (.int x :: rest)) :=
  lv_if_eq hx hb hdg ht (fun h => kt ((nn_eq ex (rfl : (0 : Int32) = nI 0) hi (by decide)).mp h)) (fun h => kf (fun q => h ((nn_eq ex (rfl : (0 : Int32) = nI 0) hi (by decide)).mpr q)))
theorem xn_if_ne (hx : p.tables.exec = Jvm.exec) (hb : c.code = cc) {x : Int32} {off : Int} {tgt : Nat} (i : Nat) (ex : x = nI i) (hi : i < 2 ^ 31) (hdg : decode cc pc = .ok (.ifCond .ne off, 3)) (ht : (pc : Int) + off = (tgt : Int)) (kt : i ≠ 0 → W p l e R s m args below meth c H locs cells slots Q (F0 m tgt ls rest)) (kf : i = 0 → W p l e R s m args below meth c H locs cells slots Q (F0 m (pc + 3) ls rest)) : W p l e R s m args below meth c H locs cells slots Q (F0 m pc ls (.int x :: rest)) :=
  lv_if_ne hx hb hdg ht (fun h => kt (fun q => h ((nn_eq ex (rfl : (0 : Int32) = nI 0) hi (by decide)).mpr q))) (fun h => kf ((nn_eq ex (rfl : (0 : Int32) = nI 0) hi (by decide)).mp h))
theorem xn_if_lt (hx : p.tables.exec = Jvm.exec) (hb : c.code = cc) {x : Int32} {off : Int} {tgt : Nat} (i : Nat) (ex : x = nI i) (hi : i < 2 ^ 31) (hdg : decode cc pc = .ok (.ifCond .lt off, 3)) (ht : (pc : Int) + off = (tgt : Int)) (kf : W p l e R s m args below meth c H locs cells slots Q (F0 m (pc + 3) ls rest)) : W p l e R s m args below meth c H locs cells slots Q (F0 m pc ls (.int x :: rest)) :=
  lv_if_lt hx hb hdg ht (fun h => absurd h (by rw [ex]; exact nI_pos hi)) (fun _ => kf)
theorem xn_if_ge (hx : p.tables.exec = Jvm.exec) (hb : c.code = cc) {x : Int32} {off : Int} {tgt : Nat} (i : Nat) (ex : x = nI i) (hi : i < 2 ^ 31) (hdg : decode cc pc = .ok (.ifCond .ge off, 3)) (ht : (pc : Int) + off = (tgt : Int)) (kt : W p l e R s m args below meth c H locs cells slots Q (F0 m tgt ls rest)) : W p l e R s m args below meth c H locs cells slots Q (F0 m pc ls (.int x :: rest)) :=
  lv_if_ge hx hb hdg ht (fun _ => kt) (fun h => absurd (by rw [ex]; exact nI_pos' hi) h)
theorem xn_if_gt (hx : p.tables.exec = Jvm.exec) (hb : c.code = cc) {x : Int32} {off : Int} {tgt : Nat} (i : Nat) (ex : x = nI i) (hi : i < 2 ^ 31) (hdg : decode cc pc = .ok (.ifCond .gt off, 3)) (ht : (pc : Int) + off = (tgt : Int)) (kt : 0 < i → W p l e R s m args below meth c H locs cells slots Q (F0 m tgt ls rest)) (kf : i = 0 → W p l e R s m args below meth c H locs cells slots Q (F0 m (pc + 3) ls rest)) : W p l e R s m args below meth c H locs cells slots Q (F0 m pc ls (.int x :: rest)) :=
  lv_if_gt hx hb hdg ht (fun h => kt ((nn_lt (rfl : (0 : Int32) = nI 0) ex (by decide) hi).mp h)) (fun h => kf (Nat.eq_zero_of_not_pos fun q => h ((nn_lt (rfl : (0 : Int32) = nI 0) ex (by decide) hi).mpr q)))
theorem xn_if_le (hx : p.tables.exec = Jvm.exec) (hb : c.code = cc) {x : Int32} {off : Int} {tgt : Nat} (i : Nat) (ex : x = nI i) (hi : i < 2 ^ 31) (hdg : decode cc pc = .ok (.ifCond .le off, 3)) (ht : (pc : Int) + off = (tgt : Int)) (kt : i = 0 → W p l e R s m args below meth c H locs cells slots Q (F0 m tgt ls rest)) (kf : 0 < i → W p l e R s m args below meth c H locs cells slots Q (F0 m (pc + 3) ls rest)) : W p l e R s m args below meth c H locs cells slots Q (F0 m pc ls (.int x :: rest)) :=
  lv_if_le hx hb hdg ht (fun h => kt (Nat.le_zero.mp ((nn_le ex (rfl : (0 : Int32) = nI 0) hi (by decide)).mp h))) (fun h => kf (Nat.pos_of_ne_zero fun q => h ((nn_le ex (rfl : (0 : Int32) = nI 0) hi (by decide)).mpr (Nat.le_of_eq q))))
theorem xn_icmp_lt (hx : p.tables.exec = Jvm.exec) (hb : c.code = cc) {x y : Int32} {off : Int} {tgt : Nat} (i j : Nat) (ex : x = nI i) (ey : y = nI j) (hi : i < 2 ^ 31) (hj : j < 2 ^ 31) (hdg : decode cc pc = .ok (.if_icmp .lt off, 3)) (ht : (pc : Int) + off = (tgt : Int)) (kt : i < j → W p l e R s m args below meth c H locs cells slots Q (F0 m tgt ls rest)) (kf : j ≤ i → W p l e R s m args below meth c H locs cells slots Q (F0 m (pc + 3) ls rest)) : W p l e R s m args below meth c H locs cells slots Q (F0 m pc ls (.int y :: .int x :: rest)) :=
  lv_icmp_lt hx hb hdg ht (fun h => kt ((nn_lt ex ey hi hj).mp h)) (fun h => kf (Nat.le_of_not_lt fun q => h ((nn_lt ex ey hi hj).mpr q)))
theorem xn_icmp_gt (hx : p.tables.exec = Jvm.exec) (hb : c.code = cc) {x y : Int32} {off : Int} {tgt : Nat} (i j : Nat) (ex : x = nI i) (ey : y = nI j) (hi : i < 2 ^ 31) (hj : j < 2 ^ 31) (hdg : decode cc pc = .ok (.if_icmp .gt off, 3)) (ht : (pc : Int) + off = (tgt : Int)) (kt : j < i → W p l e R s m args below meth c H locs cells slots Q (F0 m tgt ls rest)) (kf : i ≤ j → W p l e R s m args below meth c H locs cells slots Q (F0 m (pc + 3) ls rest)) : W p l e R s m args below meth c H locs cells slots Q (F0 m pc ls (.int y :: .int x :: rest)) :=
  lv_icmp_gt hx hb hdg ht (fun h => kt ((nn_lt ey ex hj hi).mp h)) (fun h => kf (Nat.le_of_not_lt fun q => h ((nn_lt ey ex hj hi).mpr q)))
theorem xn_icmp_le (hx : p.tables.exec = Jvm.exec) (hb : c.code = cc) {x y : Int32} {off : Int} {tgt : Nat} (i j : Nat) (ex : x = nI i) (ey : y = nI j) (hi : i < 2 ^ 31) (hj : j < 2 ^ 31) (hdg : decode cc pc = .ok (.if_icmp .le off, 3)) (ht : (pc : Int) + off = (tgt : Int)) (kt : i ≤ j → W p l e R s m args below meth c H locs cells slots Q (F0 m tgt ls rest)) (kf : j < i → W p l e R s m args below meth c H locs cells slots Q (F0 m (pc + 3) ls rest)) : W p l e R s m args below meth c H locs cells slots Q (F0 m pc ls (.int y :: .int x :: rest)) :=
  lv_icmp_le hx hb hdg ht (fun h => kt ((nn_le ex ey hi hj).mp h)) (fun h => kf (Nat.lt_of_not_le fun q => h ((nn_le ex ey hi hj).mpr q)))
theorem xn_icmp_eq (hx : p.tables.exec = Jvm.exec) (hb : c.code = cc) {x y : Int32} {off : Int} {tgt : Nat} (i j : Nat) (ex : x = nI i) (ey : y = nI j) (hi : i < 2 ^ 31) (hj : j < 2 ^ 31) (hdg : decode cc pc = .ok (.if_icmp .eq off, 3)) (ht : (pc : Int) + off = (tgt : Int)) (kt : i = j → W p l e R s m args below meth c H locs cells slots Q (F0 m tgt ls rest)) (kf : i ≠ j → W p l e R s m args below meth c H locs cells slots Q (F0 m (pc + 3) ls rest)) : W p l e R s m args below meth c H locs cells slots Q (F0 m pc ls (.int y :: .int x :: rest)) :=
  lv_icmp_eq hx hb hdg ht (fun h => kt ((nn_eq ex ey hi hj).mp h)) (fun h => kf (fun q => h ((nn_eq ex ey hi hj).mpr q)))
theorem xn_icmp_ne (hx : p.tables.exec = Jvm.exec) (hb : c.code = cc) {x y : Int32} {off : Int} {tgt : Nat} (i j : Nat) (ex : x = nI i) (ey : y = nI j) (hi : i < 2 ^ 31) (hj : j < 2 ^ 31) (hdg : decode cc pc = .ok (.if_icmp .ne off, 3)) (ht : (pc : Int) + off = (tgt : Int)) (kt : i ≠ j → W p l e R s m args below meth c H locs cells slots Q (F0 m tgt ls rest)) (kf : i = j → W p l e R s m args below meth c H locs cells slots Q (F0 m (pc + 3) ls rest)) : W p l e R s m args below meth c H locs cells slots Q (F0 m pc ls (.int y :: .int x :: rest)) :=
  lv_icmp_ne hx hb hdg ht (fun h => kt (fun q => h ((nn_eq ex ey hi hj).mpr q))) (fun h => kf ((nn_eq ex ey hi hj).mp h))
/-- branches on a truth -/
theorem xb_if_eq (hx : p.tables.exec = Jvm.exec) (hb : c.code = cc) {P : Prop} [Decidable P] {off : Int} {tgt : Nat} (hdg : decode cc pc = .ok (.ifCond .eq off, 3)) (ht : (pc : Int) + off = (tgt : Int)) (kt : ¬ P → W p l e R s m args below meth c H locs cells slots Q (F0 m tgt ls rest)) (kf : P → W p l e R s m args below meth c H locs cells slots Q (F0 m (pc + 3) ls rest)) : W p l e R s m args below meth c H locs cells slots Q (F0 m pc ls (.int (bI P) :: rest)) :=
  lv_if_eq hx hb hdg ht (fun h => kt (bI_eq0.mp h)) (fun h => kf (Decidable.byContradiction fun q => h (bI_f q)))
theorem xb_if_ne (hx : p.tables.exec = Jvm.exec) (hb : c.code = cc) {P : Prop} [Decidable P] {off : Int} {tgt : Nat} (hdg : decode cc pc = .ok (.ifCond .ne off, 3)) (ht : (pc : Int) + off = (tgt : Int)) (kt : P → W p l e R s m args below meth c H locs cells slots Q (F0 m tgt ls rest)) (kf : ¬ P → W p l e R s m args below meth c H locs cells slots Q (F0 m (pc + 3) ls rest)) : W p l e R s m args below meth c H locs cells slots Q (F0 m pc ls (.int (bI P) :: rest)) :=
  lv_if_ne hx hb hdg ht (fun h => kt (Decidable.byContradiction fun q => h (bI_f q))) (fun h => kf (bI_eq0.mp h))
/-- calls of methods that only read -/
theorem xr_V {y : MethodName} {bytes : ByteArray} {maxL nL n index : Nat} {ret : Option FieldType} {ws9 Ts : List Cond} {rm : Room} {own C : String} {b : Nat} {As st0 : List Value} {wc : va_W} {x : Int32}
    (S : CallFix p m c cc nL s args Ts own) (hM : Met l y ws9 rm (va_Pc (.ref b :: As) (xRead K wc)) (vp_Si (fun r => r = x)) 0 0 (fun _ => False)) (cw : CallW R s args own C index y bytes maxL ret ws9 rm 0 0 n) (hK : va_K K.1 vwCl (kt K) s) (hPc : va_P K.1 vwCl wc H) (q0 ci : Nat) {q : vw_C} {fs : List Value} (hc : vwCl[ci]? = some q) (hqC : q.1 = C) (he : wc[q0]? = some (b, .inr (ci, fs))) (hn : As.length = n) (hsize : ls.size = nL) (hst : st0 = As.reverse ++ .ref b :: rest) (hW : (rest.map fun v => v.category).sum ≤ 8) (hce : cells ≤ R.cells) (hsl : slots ≤ R.slots) (hdg : decode cc pc = .ok (.invokevirtual index, 3))
    (kk : W p l e R s m args below meth c H locs cells slots Q (F0 m (pc + 3) ls (.int x :: rest))) : W p l e R s m args below meth c H locs cells slots Q (F0 m pc ls st0) := by
  subst hqC
  refine vp_callSi (a := (Value.ref b :: As).toArray) (rest := rest) (va_Run.run (va_runV S hM cw ⟨xRead_blind K wc _, va_recv hK hPc hc he, fun U hU hW => ⟨rfl, by rw [hU]; exact hPc, va_K.moved hW.alike hK⟩⟩ rfl hn hsize hst (lv_room hW) hdg ⟨hce, hsl⟩)) (fun r hr => ?_)
  subst hr
  exact kk
theorem xr_S {y : MethodName} {bytes : ByteArray} {maxL nL n index : Nat} {ret : Option FieldType} {ws9 Ts : List Cond} {rm : Room} {own : String} {As st0 : List Value} {wc : va_W} {x : Int32}
    (S : CallFix p m c cc nL s args Ts own) (hM : Met l y ws9 rm (va_Pc As (xRead K wc)) (vp_Si (fun r => r = x)) 0 0 (fun _ => False)) (cw : CallB R s args own index y bytes maxL ret ws9 rm 0 0 n ∧ (Cond.static y).before args s = true) (hK : va_K K.1 vwCl (kt K) s) (hPc : va_P K.1 vwCl wc H) (hn : As.length = n) (hsize : ls.size = nL) (hst : st0 = As.reverse ++ rest) (hW : (rest.map fun v => v.category).sum ≤ 8) (hce : cells ≤ R.cells) (hsl : slots ≤ R.slots) (hdg : decode cc pc = .ok (.invokestatic index, 3))
    (kk : W p l e R s m args below meth c H locs cells slots Q (F0 m (pc + 3) ls (.int x :: rest))) : W p l e R s m args below meth c H locs cells slots Q (F0 m pc ls st0) := by
  refine vp_callSi (a := As.toArray) (rest := rest) (va_Run.run (va_runS S hM cw ⟨xRead_blind K wc _, fun U hU hW => ⟨rfl, by rw [hU]; exact hPc, va_K.moved hW.alike hK⟩⟩ rfl hn hsize hst (lv_room hW) hdg ⟨hce, hsl⟩)) (fun r hr => ?_)
  subst hr
  exact kk
/-- behind a call that writes: the caller's world with the callee's part new -/
theorem xw_back {wc wr w1 wn : va_W} {H1 : Heap} (hP : va_P K.1 vwCl ws H) (hD : va_D A ws) (isC isR perm : List Nat) (hC : isC.map (fun i => ws[i]?) = wc.map some) (hR : isR.map (fun i => ws[i]?) = wr.map some) (hok : x_ok isC isR perm = true) (hF : ∀ q, va_A wc H.size q → A q) (hp : perm.map (fun i => (wr ++ w1)[i]?) = wn.map some)
    (hk : ∀ q : Nat, q < H.size → ¬ va_A wc H.size q → H1[q]? = H[q]?) (hP1 : va_P K.1 vwCl w1 H1) (hD1 : va_D (va_A wc H.size) w1) : va_P K.1 vwCl wn H1 ∧ va_D A wn := by
  obtain ⟨h1, h2, h3, h4⟩ := x_ok_spec hok
  obtain ⟨hP2, hD2⟩ := va_join hP hD isC isR hC hR h2 h3 hk hF hP1 hD1
  exact ⟨P_sub hP2 perm hp, hD2.sub perm h4 hp⟩
theorem xw_Vi {S9 : Type} {post : Int32 → S9 → Prop} {w1 : S9 → va_W} {y : MethodName} {bytes : ByteArray} {maxL nL n index mc ms : Nat} {ret : Option FieldType} {ws9 Ts : List Cond} {rm : Room} {own C : String} {b : Nat} {As st0 : List Value} {wc wr : va_W}
    (S : CallFix p m c cc nL s args Ts own) (hM : Met l y ws9 rm (va_Pc (.ref b :: As) (xPre K wc H.size)) (va_Qi post (fun u t => xPost K (va_A wc H.size) (w1 u) t) (va_A wc H.size)) mc ms (va_A wc H.size)) (cw : CallW R s args own C index y bytes maxL ret ws9 rm mc ms n) (hK : va_K K.1 vwCl (kt K) s) (hP : va_P K.1 vwCl ws H) (hD : va_D A ws) (hS : va_S A s.heap H locs) (hA : ∀ q : Nat, s.heap.size ≤ q → A q)
    (isC isR perm : List Nat) (hC : isC.map (fun i => ws[i]?) = wc.map some) (hR : isR.map (fun i => ws[i]?) = wr.map some) (hok : x_ok isC isR perm = true) (wn : S9 → va_W) (hp : ∀ u, perm.map (fun i => (wr ++ w1 u)[i]?) = (wn u).map some) (q0 ci : Nat) {q : vw_C} {fs : List Value} (hc : vwCl[ci]? = some q) (hqC : q.1 = C) (he : wc[q0]? = some (b, .inr (ci, fs))) (hn : As.length = n) (hsize : ls.size = nL) (hst : st0 = As.reverse ++ .ref b :: rest) (hW : (rest.map fun v => v.category).sum ≤ 8) (hce : cells + mc ≤ R.cells) (hsl : slots + ms ≤ R.slots) (hdg : decode cc pc = .ok (.invokevirtual index, 3))
    (kk : ∀ (r : Int32) (u : S9) (H1 : Heap) (locs1 : List Loc), post r u → va_P K.1 vwCl (wn u) H1 → va_D A (wn u) → va_S A s.heap H1 locs1 → W p l e R s m args below meth c H1 locs1 (cells + mc) (slots + ms) Q (F0 m (pc + 3) ls (.int r :: rest))) : W p l e R s m args below meth c H locs cells slots Q (F0 m pc ls st0) := by
  subst hqC
  have hok2 := x_ok_spec hok
  have hPc := P_sub hP isC hC
  have hDc := hD.sub isC hok2.1 hC
  have hF := va_free (wc := wc) hD hS hA isC hC
  refine va_calli (a := (Value.ref b :: As).toArray) (rest := rest) (va_runV S hM cw ⟨xPre_blind K wc _ _, va_recv hK hPc hc he, fun U hU hW => ⟨rfl, by rw [hU], by rw [hU]; exact hPc, va_K.moved hW.alike hK, hDc.weaken (fun _ _ _ _ => trivial)⟩⟩ rfl hn hsize hst (lv_room hW) hdg ⟨hce, hsl⟩) hS (fun q _ h => hF q h) hF (fun r u t H1 locs1 ht hvm hw hB hz1 hk1 hS1 => ?_)
  obtain ⟨hP1, hK1, hD1⟩ := hB
  rw [ht] at hP1
  obtain ⟨hP2, hD2⟩ := xw_back hP hD isC isR perm hC hR hok hF (hp u) hk1 hP1 hD1
  exact kk r u H1 locs1 hw hP2 hD2 hS1
theorem xw_Vv {S9 : Type} {post : S9 → Prop} {w1 : S9 → va_W} {y : MethodName} {bytes : ByteArray} {maxL nL n index mc ms : Nat} {ret : Option FieldType} {ws9 Ts : List Cond} {rm : Room} {own C : String} {b : Nat} {As st0 : List Value} {wc wr : va_W}
    (S : CallFix p m c cc nL s args Ts own) (hM : Met l y ws9 rm (va_Pc (.ref b :: As) (xPre K wc H.size)) (va_Qv post (fun u t => xPost K (va_A wc H.size) (w1 u) t) (va_A wc H.size)) mc ms (va_A wc H.size)) (cw : CallW R s args own C index y bytes maxL ret ws9 rm mc ms n) (hK : va_K K.1 vwCl (kt K) s) (hP : va_P K.1 vwCl ws H) (hD : va_D A ws) (hS : va_S A s.heap H locs) (hA : ∀ q : Nat, s.heap.size ≤ q → A q)
    (isC isR perm : List Nat) (hC : isC.map (fun i => ws[i]?) = wc.map some) (hR : isR.map (fun i => ws[i]?) = wr.map some) (hok : x_ok isC isR perm = true) (wn : S9 → va_W) (hp : ∀ u, perm.map (fun i => (wr ++ w1 u)[i]?) = (wn u).map some) (q0 ci : Nat) {q : vw_C} {fs : List Value} (hc : vwCl[ci]? = some q) (hqC : q.1 = C) (he : wc[q0]? = some (b, .inr (ci, fs))) (hn : As.length = n) (hsize : ls.size = nL) (hst : st0 = As.reverse ++ .ref b :: rest) (hW : (rest.map fun v => v.category).sum ≤ 8) (hce : cells + mc ≤ R.cells) (hsl : slots + ms ≤ R.slots) (hdg : decode cc pc = .ok (.invokevirtual index, 3))
    (kk : ∀ (u : S9) (H1 : Heap) (locs1 : List Loc), post u → va_P K.1 vwCl (wn u) H1 → va_D A (wn u) → va_S A s.heap H1 locs1 → W p l e R s m args below meth c H1 locs1 (cells + mc) (slots + ms) Q (F0 m (pc + 3) ls rest)) : W p l e R s m args below meth c H locs cells slots Q (F0 m pc ls st0) := by
  subst hqC
  have hok2 := x_ok_spec hok
  have hPc := P_sub hP isC hC
  have hDc := hD.sub isC hok2.1 hC
  have hF := va_free (wc := wc) hD hS hA isC hC
  refine va_callv (a := (Value.ref b :: As).toArray) (rest := rest) (va_runV S hM cw ⟨xPre_blind K wc _ _, va_recv hK hPc hc he, fun U hU hW => ⟨rfl, by rw [hU], by rw [hU]; exact hPc, va_K.moved hW.alike hK, hDc.weaken (fun _ _ _ _ => trivial)⟩⟩ rfl hn hsize hst (lv_room hW) hdg ⟨hce, hsl⟩) hS (fun q _ h => hF q h) hF (fun u t H1 locs1 ht hvm hw hB hz1 hk1 hS1 => ?_)
  obtain ⟨hP1, hK1, hD1⟩ := hB
  rw [ht] at hP1
  obtain ⟨hP2, hD2⟩ := xw_back hP hD isC isR perm hC hR hok hF (hp u) hk1 hP1 hD1
  exact kk u H1 locs1 hw hP2 hD2 hS1
theorem xw_Sv {S9 : Type} {post : S9 → Prop} {w1 : S9 → va_W} {y : MethodName} {bytes : ByteArray} {maxL nL n index mc ms : Nat} {ret : Option FieldType} {ws9 Ts : List Cond} {rm : Room} {own : String} {As st0 : List Value} {wc wr : va_W}
    (S : CallFix p m c cc nL s args Ts own) (hM : Met l y ws9 rm (va_Pc As (xPre K wc H.size)) (va_Qv post (fun u t => xPost K (va_A wc H.size) (w1 u) t) (va_A wc H.size)) mc ms (va_A wc H.size)) (cw : CallB R s args own index y bytes maxL ret ws9 rm mc ms n ∧ (Cond.static y).before args s = true) (hK : va_K K.1 vwCl (kt K) s) (hP : va_P K.1 vwCl ws H) (hD : va_D A ws) (hS : va_S A s.heap H locs) (hA : ∀ q : Nat, s.heap.size ≤ q → A q)
    (isC isR perm : List Nat) (hC : isC.map (fun i => ws[i]?) = wc.map some) (hR : isR.map (fun i => ws[i]?) = wr.map some) (hok : x_ok isC isR perm = true) (wn : S9 → va_W) (hp : ∀ u, perm.map (fun i => (wr ++ w1 u)[i]?) = (wn u).map some) (hn : As.length = n) (hsize : ls.size = nL) (hst : st0 = As.reverse ++ rest) (hW : (rest.map fun v => v.category).sum ≤ 8) (hce : cells + mc ≤ R.cells) (hsl : slots + ms ≤ R.slots) (hdg : decode cc pc = .ok (.invokestatic index, 3))
    (kk : ∀ (u : S9) (H1 : Heap) (locs1 : List Loc), post u → va_P K.1 vwCl (wn u) H1 → va_D A (wn u) → va_S A s.heap H1 locs1 → W p l e R s m args below meth c H1 locs1 (cells + mc) (slots + ms) Q (F0 m (pc + 3) ls rest)) : W p l e R s m args below meth c H locs cells slots Q (F0 m pc ls st0) := by
  have hok2 := x_ok_spec hok
  have hPc := P_sub hP isC hC
  have hDc := hD.sub isC hok2.1 hC
  have hF := va_free (wc := wc) hD hS hA isC hC
  refine va_callv (a := As.toArray) (rest := rest) (va_runS S hM cw ⟨xPre_blind K wc _ _, fun U hU hW => ⟨rfl, by rw [hU], by rw [hU]; exact hPc, va_K.moved hW.alike hK, hDc.weaken (fun _ _ _ _ => trivial)⟩⟩ rfl hn hsize hst (lv_room hW) hdg ⟨hce, hsl⟩) hS (fun q _ h => hF q h) hF (fun u t H1 locs1 ht hvm hw hB hz1 hk1 hS1 => ?_)
  obtain ⟨hP1, hK1, hD1⟩ := hB
  rw [ht] at hP1
  obtain ⟨hP2, hD2⟩ := xw_back hP hD isC isR perm hC hR hok hF (hp u) hk1 hP1 hD1
  exact kk u H1 locs1 hw hP2 hD2 hS1
theorem xr_Sl {y : MethodName} {bytes : ByteArray} {maxL nL n index : Nat} {ret : Option FieldType} {ws9 Ts : List Cond} {rm : Room} {own : String} {As st0 : List Value} {wc : va_W} {x : Int64}
    (S : CallFix p m c cc nL s args Ts own) (hM : Met l y ws9 rm (va_Pc As (xRead K wc)) (vp_Sl (fun r => r = x)) 0 0 (fun _ => False)) (cw : CallB R s args own index y bytes maxL ret ws9 rm 0 0 n ∧ (Cond.static y).before args s = true) (hK : va_K K.1 vwCl (kt K) s) (hPc : va_P K.1 vwCl wc H) (hn : As.length = n) (hsize : ls.size = nL) (hst : st0 = As.reverse ++ rest) (hW : (rest.map fun v => v.category).sum ≤ 8) (hce : cells ≤ R.cells) (hsl : slots ≤ R.slots) (hdg : decode cc pc = .ok (.invokestatic index, 3))
    (kk : W p l e R s m args below meth c H locs cells slots Q (F0 m (pc + 3) ls (.long x :: rest))) : W p l e R s m args below meth c H locs cells slots Q (F0 m pc ls st0) := by
  refine vp_callSl (a := As.toArray) (rest := rest) (va_Run.run (va_runS S hM cw ⟨xRead_blind K wc _, fun U hU hW => ⟨rfl, by rw [hU]; exact hPc, va_K.moved hW.alike hK⟩⟩ rfl hn hsize hst (lv_room hW) hdg ⟨hce, hsl⟩)) (fun r hr => ?_)
  subst hr
  exact kk
end XR

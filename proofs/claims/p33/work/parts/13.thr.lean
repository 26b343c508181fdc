/-! methods of the class that may throw: starts, throws, calls; worlds as lists of lists -/
def exN : List String := ["java/lang/RuntimeException", "java/lang/Exception"]
def catL {α : Type} : List (List α) → List α | [] => [] | x :: r => r.foldl (· ++ ·) x
theorem catL_fold {α : Type} : ∀ (r : List (List α)) (x : List α), r.foldl (· ++ ·) x = x ++ r.flatten
  | [], x => by simp
  | y :: r, x => by
    rw [List.foldl_cons, catL_fold r (x ++ y), List.flatten_cons, List.append_assoc]
theorem catL_flat {α : Type} (l : List (List α)) : catL l = l.flatten := by
  cases l with
  | nil => rfl
  | cons x r => exact catL_fold r x
theorem perm_by {α : Type} (l : List (List α)) (is : List Nat) (h : is.Perm (List.range l.length)) : (is.map (fun i => l.getD i [])).flatten.Perm l.flatten := by
  have h1 := h.map (fun i => l.getD i [])
  have h2 : (List.range l.length).map (fun i => l.getD i []) = l := by
    apply List.ext_getElem
    · simp
    · intro i h1 h2
      simp [List.getElem?_eq_getElem h2]
  rw [h2] at h1
  exact h1.flatten
theorem perm_split {α : Type} (l : List (List α)) (n : Nat) (hn : l.length = n) (i1 i2 : List Nat) (h : (i1 ++ i2).Perm (List.range n)) : (catL l).Perm (catL (i1.map (fun i => l.getD i [])) ++ catL (i2.map (fun i => l.getD i []))) := by
  have h1 := perm_by l (i1 ++ i2) (by rw [hn]; exact h)
  rw [catL_flat, catL_flat, catL_flat]
  rw [List.map_append, List.flatten_append] at h1
  exact h1.symm
def xXC {SX : Type} (K : KX) (A : Nat → Prop) (px : String → SX → Prop) (wx : SX → va_W) : String → State → State → Prop := vx_X (fun _ : SX => True) (fun E u t => px E u ∧ xPost K A (wx u) t) A
section XT
variable {p : Program} {l : Launch} {e : Env} {R : Room} {s : State} {m : MethodId} {args : Array Value} {below : List Frame} {meth : Method} {c : Code} {H : Heap} {locs : List Loc} {cells slots : Nat} {Q : State → Prop}
variable {cc : ByteArray} {pc : Nat} {ls : Array Slot} {rest : List Value} {K : KX} {A : Nat → Prop} {a : Nat} {ws : va_W} {H0 : Heap}
theorem xt_at {w : va_W} {t : State} (hP : va_P K.1 vwCl w H) (hK : va_K K.1 vwCl (kt K) s) (hD : va_D A w) (hvm : s.vm.Alike t.vm) (hk : ∀ q : Nat, q < H.size → t.heap[q]? = H[q]?) : xPost K A w t := by
  exact ⟨hP.kept (fun k q hq => hk q.1 (vx_lt hP hq)), va_K.moved hvm hK, hD⟩
/-- what a throw of the class itself needs, said once -/
abbrev xThr (p : Program) (l : Launch) (e : Env) (rm : Room) (s : State) (m : MethodId) (av9 : Array Value) (below : List Frame) (meth : Method) (c : Code) (Q9 : State → Prop) (cc : ByteArray) (maxL mc ms : Nat) (K : KX) (A : Nat → Prop) {SX : Type} (px : String → SX → Prop) (wx : SX → va_W) : Prop :=
  ∀ (H1 : Heap) (locs1 : List Loc) (cells slots pc ik ic is : Nat) (ls : Array Slot) (rest : List Value) (E text : String) (u : SX), va_P K.1 vwCl (wx u) H1 → va_D A (wx u) → va_S A s.heap H1 locs1 → cells + 1 ≤ mc → slots + 6 ≤ ms → px E u → (is, text) ∈ strL → E ∈ [exI, exA, exS] → Bundle.fit E = true → (Cond.classLink "StandIns" ik E).before av9 s = true → (Cond.initialized E).before av9 s = true → (∀ w ∈ (vx_atS "StandIns" ic E exN).filter goodWord, w.before av9 s = true) → (∀ w ∈ (vx_atS "StandIns" ic E exN).filter (fun w => !goodWord w), w ∈ [Cond.castable E E, Cond.declares ⟨"java/lang/RuntimeException", "<init>", "(Ljava/lang/String;)V"⟩, Cond.declares ⟨"java/lang/Exception", "<init>", "(Ljava/lang/String;)V"⟩, Cond.declares ⟨"java/lang/Throwable", "<init>", "(Ljava/lang/String;)V"⟩]) → (∀ w ∈ Cond.classLink "StandIns" ik E :: Cond.initialized E :: vx_atS "StandIns" ic E exN, vx_ot w = true) →
    decode cc pc = .ok (.new ik, 3) → decode cc (pc + 3) = .ok (.dup, 1) → ((decode cc (pc + 4) = .ok (.ldc is, 2) ∧ decode cc (pc + 6) = .ok (.invokespecial ic, 3) ∧ decode cc (pc + 9) = .ok (.athrow, 1)) ∨ (decode cc (pc + 4) = .ok (.ldc_w is, 3) ∧ decode cc (pc + 7) = .ok (.invokespecial ic, 3) ∧ decode cc (pc + 10) = .ok (.athrow, 1))) →
    ls.size = maxL → (rest.map fun v => v.category).sum ≤ 8 → W p l e rm s m av9 below meth c H1 locs1 cells slots Q9 (F0 m pc ls rest)
abbrev xOut (p : Program) (l : Launch) (e : Env) (rm : Room) (s : State) (m : MethodId) (av9 : Array Value) (below : List Frame) (meth : Method) (c : Code) (Q9 : State → Prop) (mc ms : Nat) (K : KX) (A : Nat → Prop) {SX : Type} (px : String → SX → Prop) (wx : SX → va_W) : Prop :=
  ∀ (H1 : Heap) (locs1 : List Loc) (cells slots pc : Nat) (ls : Array Slot) (rest : List Value) (E : String) (ce : Cell) (q : Addr) (u : SX), va_P K.1 vwCl (wx u) H1 → va_D A (wx u) → va_S A s.heap H1 locs1 → cells ≤ mc → slots ≤ ms → px E u → H1[q]? = some ce → ce.vm = .none → s.vm.findClass E = some ce.cls → vx_W p l e rm s m av9 below meth c H1 locs1 cells slots Q9 (F0 m pc ls rest) q
theorem xt_thr {SX : Type} {px : String → SX → Prop} {wx : SX → va_W} {rm : Room} {maxL mc ms : Nat} {Qc : Array Value → State → Outcome → State → Prop} (hls : l.stackTraces = false) (hx : p.tables.exec = Jvm.exec) (hb : c.code = cc) (hml : c.maxLocals = maxL) (hlocks : meth.locks = false) (hown : s.vm.findClass "StandIns" = some m.cls) (hnone : ∀ x ∈ c.exceptionTable.toList, False) (hK : va_K K.1 vwCl (kt K) s) (hZ : xSt A s s.heap)
    (hrm : mc ≤ rm.cells ∧ ms ≤ rm.slots ∧ 6 ≤ rm.frames ∧ 90 ≤ rm.locals) : xThr p l e rm s m args below meth c (vx_MQ below Qc (xXC K A px wx) args s mc ms A) cc maxL mc ms K A px wx := by
  intro H1 locs1 cells slots pc ik ic is ls rest E text u hP1 hD1 hS1 hc hs hpx hstr hE hfit hk hini hat1 hat2 hgood d0 d3 hd hsz hcat
  obtain ⟨sa, hsa⟩ := hZ.2.2.2.2.2.1 _ hstr
  have hat : ∀ w ∈ vx_atS "StandIns" ic E exN, w.before args s = true := vx_hat hat1 hat2 (vx_c (va_Nw.use rfl (hZ.2.2.2.2.2.2.1 E hE).1) (vx_c (va_Nw.use rfl ((hZ.2.2.2.2.2.2.1 E hE).2 _ (by decide))) (vx_c (va_Nw.use rfl ((hZ.2.2.2.2.2.2.1 E hE).2 _ (by decide))) (vx_c (va_Nw.use rfl ((hZ.2.2.2.2.2.2.1 E hE).2 _ (by decide))) vx_n))))
  have hfn : ∀ n ∈ exN, Bundle.fit n = true := by decide +kernel
  have hgo : ∀ t : State, s.vm.Alike t.vm → H1.size ≤ t.heap.size → (∀ q : Nat, q < H1.size → t.heap[q]? = H1[q]?) → xXC K A px wx E s t := fun t hvm hz hq =>
    ⟨u, trivial, ⟨hpx, xt_at hP1 hK hD1 hvm hq⟩, Nat.le_trans hS1.1 hz, fun q h1 h2 => (hq q (Nat.lt_of_lt_of_le h1 hS1.1)).trans (hS1.2.1 q h1 h2)⟩
  have hlen : exN.length = 2 := rfl
  rcases hd with ⟨d4, d6, d9⟩ | ⟨d4, d7, d10⟩
  · exact vx_throwS hx hb hls (names := exN) (sa := sa) (A := A) hown hfit hfn hk hini hsa hat hgood hZ.2.2.2.1 hZ.2.2.2.2.1 hS1 (hsz.trans hml.symm) d0 d3 d4 d6 d9 (fun x hx => (hnone x hx).elim) (by omega) (by omega) (by omega) (by omega) hlocks hgo hS1.2.2 hc hs
  · exact vx_throwSW hx hb hls (names := exN) (sa := sa) (A := A) hown hfit hfn hk hini hsa hat hgood hZ.2.2.2.1 hZ.2.2.2.2.1 hS1 (hsz.trans hml.symm) d0 d3 d4 d7 d10 (fun x hx => (hnone x hx).elim) (by omega) (by omega) (by omega) (by omega) hlocks hgo hS1.2.2 hc hs
theorem xt_out {SX : Type} {px : String → SX → Prop} {wx : SX → va_W} {rm : Room} {mc ms : Nat} {Qc : Array Value → State → Outcome → State → Prop} (hlocks : meth.locks = false) (hnone : ∀ x ∈ c.exceptionTable.toList, False) (hK : va_K K.1 vwCl (kt K) s) :
    xOut p l e rm s m args below meth c (vx_MQ below Qc (xXC K A px wx) args s mc ms A) mc ms K A px wx := by
  intro H1 locs1 cells slots pc ls rest E ce q u hP1 hD1 hS1 hc hs hpx hce hv hcl
  exact vx_out (fun x hx => (hnone x hx).elim) hlocks hce hv hcl (fun t ht hvm => ⟨u, trivial, ⟨hpx, by rw [show t.heap = H1 from ht]; exact hP1, va_K.moved hvm hK, hD1⟩, by rw [ht]; exact hS1.1, fun q h1 h2 => by rw [ht]; exact hS1.2.1 q h1 h2⟩) hS1.2.2 hc hs
theorem xt_starti {S9 SX : Type} {post : Int32 → S9 → Prop} {px : String → SX → Prop} {w1 : S9 → va_W} {wx : SX → va_W} {y : MethodName} {ws9 ws' : List Cond} {rm : Room} {maxL mc ms sz : Nat} {av : List Value} {wk : va_W} (hls : l.stackTraces = false) (hy : plainName y.cls = true) (hyc : y.cls = "StandIns") (hw : ws9 = Cond.code y cc maxL (some .int) :: ws') (hlen : (lg_sl av).length ≤ maxL) (hrm : mc ≤ rm.cells ∧ ms ≤ rm.slots ∧ 6 ≤ rm.frames ∧ 90 ≤ rm.locals)
    (body : ∀ (p : Program) (e : Env) (s : State) (m : MethodId) (below : List Frame) (meth : Method) (c : Code) (H : Heap) (locs : List Loc) (ls : Array Slot) (A : Nat → Prop) (av9 : Array Value) (Q9 : State → Prop), p.tables.exec = Jvm.exec → c.code = cc → meth.locks = false → c.maxLocals = maxL → meth.name = y.name → (∀ w ∈ ws9, w.before av9 s = true) → s.vm.findClass y.cls = some m.cls → va_K K.1 vwCl (kt K) s → va_P K.1 vwCl wk H → va_D A wk → va_S A s.heap H locs → (∀ q : Nat, s.heap.size ≤ q → A q) → A = va_A wk sz → xSt A s s.heap →
      (∀ (H1 : Heap) (locs1 : List Loc) (cells slots pc : Nat) (ls : Array Slot) (v : Int32) (u : S9), va_P K.1 vwCl (w1 u) H1 → va_D A (w1 u) → va_S A s.heap H1 locs1 → cells ≤ mc → slots ≤ ms → post v u → decode cc pc = .ok (.ireturn, 1) → W p l e rm s m av9 below meth c H1 locs1 cells slots Q9 (F0 m pc ls [.int v])) →
      xThr p l e rm s m av9 below meth c Q9 cc maxL mc ms K A px wx → xOut p l e rm s m av9 below meth c Q9 mc ms K A px wx → lv_has ls maxL (lv_args 0 av) →
      W p l e rm s m av9 below meth c H locs 0 0 Q9 (F0 m 0 ls [])) : vx_Met l y ws9 rm (va_Pc av (xPreS K wk sz)) (va_Qi post (fun u t => xPost K (va_A wk sz) (w1 u) t) (va_A wk sz)) (xXC K (va_A wk sz) px wx) mc ms (va_A wk sz) := by
  refine vx_ofW (cc := cc) (maxL := maxL) (ret := (some .int)) hy hw ?_
  intro p e s m args below meth c s₁ B hml hnone hv
  obtain ⟨rfl, ⟨hsz, hP, hK, hD⟩, hZ⟩ := hv
  rw [lg_entry_eq]
  have hown : s.vm.findClass y.cls = some m.cls := findClass_of_methodNamed B.named
  have hown2 : s.vm.findClass "StandIns" = some m.cls := by rw [← hyc]; exact hown
  exact body p e s m below meth c _ _ _ _ _ _ B.exec B.bytes B.notSynchronized hml (name_of_methodNamed B.named B.method).1 (atoms_spec (ws := ws9) B.pre) hown hK hP hD.self va_S.rf (fun q h => Or.inr (by omega)) rfl hZ
    (fun H1 locs1 cells slots pc ls v u hP hD hS hc hs hq hdg => vx_ret (W.widen hc hs (W.iret B.exec B.bytes B.returns (fun t ht hW => ⟨⟨v, u, rfl, hq, by rw [ht]; exact hP, va_K.moved hW.alike hK, hD⟩, hS.F ht⟩) hS.2.2 hdg B.notSynchronized)))
    (xt_thr hls B.exec B.bytes hml B.notSynchronized hown2 hnone hK hZ hrm) (xt_out B.notSynchronized hnone hK) (lv_entry av hlen)
theorem xt_startz {S9 SX : Type} {post : Int32 → S9 → Prop} {px : String → SX → Prop} {w1 : S9 → va_W} {wx : SX → va_W} {y : MethodName} {ws9 ws' : List Cond} {rm : Room} {maxL mc ms sz : Nat} {ret : FieldType} {av : List Value} {wk : va_W} (hls : l.stackTraces = false) (hy : plainName y.cls = true) (hyc : y.cls = "StandIns") (hw : ws9 = Cond.code y cc maxL (some ret) :: ws') (hlen : (lg_sl av).length ≤ maxL) (hrm : mc ≤ rm.cells ∧ ms ≤ rm.slots ∧ 6 ≤ rm.frames ∧ 90 ≤ rm.locals)
    (body : ∀ (p : Program) (e : Env) (s : State) (m : MethodId) (below : List Frame) (meth : Method) (c : Code) (H : Heap) (locs : List Loc) (ls : Array Slot) (A : Nat → Prop) (av9 : Array Value) (Q9 : State → Prop), p.tables.exec = Jvm.exec → c.code = cc → meth.locks = false → c.maxLocals = maxL → meth.name = y.name → (∀ w ∈ ws9, w.before av9 s = true) → s.vm.findClass y.cls = some m.cls → va_K K.1 vwCl (kt K) s → va_P K.1 vwCl wk H → va_D A wk → va_S A s.heap H locs → (∀ q : Nat, s.heap.size ≤ q → A q) → A = va_A wk sz → xSt A s s.heap →
      (∀ (H1 : Heap) (locs1 : List Loc) (cells slots pc : Nat) (ls : Array Slot) (v : Int32), narrow ret (.int v) = .int v → ∀ (u : S9), va_P K.1 vwCl (w1 u) H1 → va_D A (w1 u) → va_S A s.heap H1 locs1 → cells ≤ mc → slots ≤ ms → post v u → decode cc pc = .ok (.ireturn, 1) → W p l e rm s m av9 below meth c H1 locs1 cells slots Q9 (F0 m pc ls [.int v])) →
      xThr p l e rm s m av9 below meth c Q9 cc maxL mc ms K A px wx → xOut p l e rm s m av9 below meth c Q9 mc ms K A px wx → lv_has ls maxL (lv_args 0 av) →
      W p l e rm s m av9 below meth c H locs 0 0 Q9 (F0 m 0 ls [])) : vx_Met l y ws9 rm (va_Pc av (xPreS K wk sz)) (va_Qi post (fun u t => xPost K (va_A wk sz) (w1 u) t) (va_A wk sz)) (xXC K (va_A wk sz) px wx) mc ms (va_A wk sz) := by
  refine vx_ofW (cc := cc) (maxL := maxL) (ret := (some ret)) hy hw ?_
  intro p e s m args below meth c s₁ B hml hnone hv
  obtain ⟨rfl, ⟨hsz, hP, hK, hD⟩, hZ⟩ := hv
  rw [lg_entry_eq]
  have hown : s.vm.findClass y.cls = some m.cls := findClass_of_methodNamed B.named
  have hown2 : s.vm.findClass "StandIns" = some m.cls := by rw [← hyc]; exact hown
  exact body p e s m below meth c _ _ _ _ _ _ B.exec B.bytes B.notSynchronized hml (name_of_methodNamed B.named B.method).1 (atoms_spec (ws := ws9) B.pre) hown hK hP hD.self va_S.rf (fun q h => Or.inr (by omega)) rfl hZ
    (fun H1 locs1 cells slots pc ls v hn u hP hD hS hc hs hq hdg => vx_ret (W.widen hc hs (W.zret B.exec B.bytes B.returns hn (fun t ht hW => ⟨⟨v, u, rfl, hq, by rw [ht]; exact hP, va_K.moved hW.alike hK, hD⟩, hS.F ht⟩) hS.2.2 hdg B.notSynchronized)))
    (xt_thr hls B.exec B.bytes hml B.notSynchronized hown2 hnone hK hZ hrm) (xt_out B.notSynchronized hnone hK) (lv_entry av hlen)
theorem xt_startv {S9 SX : Type} {post : S9 → Prop} {px : String → SX → Prop} {w1 : S9 → va_W} {wx : SX → va_W} {y : MethodName} {ws9 ws' : List Cond} {rm : Room} {maxL mc ms sz : Nat} {av : List Value} {wk : va_W} (hls : l.stackTraces = false) (hy : plainName y.cls = true) (hyc : y.cls = "StandIns") (hw : ws9 = Cond.code y cc maxL none :: ws') (hlen : (lg_sl av).length ≤ maxL) (hrm : mc ≤ rm.cells ∧ ms ≤ rm.slots ∧ 6 ≤ rm.frames ∧ 90 ≤ rm.locals)
    (body : ∀ (p : Program) (e : Env) (s : State) (m : MethodId) (below : List Frame) (meth : Method) (c : Code) (H : Heap) (locs : List Loc) (ls : Array Slot) (A : Nat → Prop) (av9 : Array Value) (Q9 : State → Prop), p.tables.exec = Jvm.exec → c.code = cc → meth.locks = false → c.maxLocals = maxL → meth.name = y.name → (∀ w ∈ ws9, w.before av9 s = true) → s.vm.findClass y.cls = some m.cls → va_K K.1 vwCl (kt K) s → va_P K.1 vwCl wk H → va_D A wk → va_S A s.heap H locs → (∀ q : Nat, s.heap.size ≤ q → A q) → A = va_A wk sz → xSt A s s.heap →
      (∀ (H1 : Heap) (locs1 : List Loc) (cells slots pc : Nat) (ls : Array Slot) (u : S9), va_P K.1 vwCl (w1 u) H1 → va_D A (w1 u) → va_S A s.heap H1 locs1 → cells ≤ mc → slots ≤ ms → post u → decode cc pc = .ok (.return_, 1) → W p l e rm s m av9 below meth c H1 locs1 cells slots Q9 (F0 m pc ls [])) →
      xThr p l e rm s m av9 below meth c Q9 cc maxL mc ms K A px wx → xOut p l e rm s m av9 below meth c Q9 mc ms K A px wx → lv_has ls maxL (lv_args 0 av) →
      W p l e rm s m av9 below meth c H locs 0 0 Q9 (F0 m 0 ls [])) : vx_Met l y ws9 rm (va_Pc av (xPreS K wk sz)) (va_Qv post (fun u t => xPost K (va_A wk sz) (w1 u) t) (va_A wk sz)) (xXC K (va_A wk sz) px wx) mc ms (va_A wk sz) := by
  refine vx_ofW (cc := cc) (maxL := maxL) (ret := none) hy hw ?_
  intro p e s m args below meth c s₁ B hml hnone hv
  obtain ⟨rfl, ⟨hsz, hP, hK, hD⟩, hZ⟩ := hv
  rw [lg_entry_eq]
  have hown : s.vm.findClass y.cls = some m.cls := findClass_of_methodNamed B.named
  have hown2 : s.vm.findClass "StandIns" = some m.cls := by rw [← hyc]; exact hown
  exact body p e s m below meth c _ _ _ _ _ _ B.exec B.bytes B.notSynchronized hml (name_of_methodNamed B.named B.method).1 (atoms_spec (ws := ws9) B.pre) hown hK hP hD.self va_S.rf (fun q h => Or.inr (by omega)) rfl hZ
    (fun H1 locs1 cells slots pc ls u hP hD hS hc hs hq hdg => vx_ret (W.widen hc hs (W.vret B.exec B.bytes B.returns (fun t ht hW => ⟨⟨u, rfl, hq, by rw [ht]; exact hP, va_K.moved hW.alike hK, hD⟩, hS.F ht⟩) hS.2.2 hdg B.notSynchronized)))
    (xt_thr hls B.exec B.bytes hml B.notSynchronized hown2 hnone hK hZ hrm) (xt_out B.notSynchronized hnone hK) (lv_entry av hlen)
/-- a call of a method that may throw and leaves its world as it is -/
theorem xt_Vv {px : String → Unit → Prop} {post : Unit → Prop} {y : MethodName} {bytes : ByteArray} {maxL nL n index mc ms : Nat} {ret : Option FieldType} {ws9 Ts : List Cond} {rm : Room} {own C : String} {b : Nat} {As st0 : List Value} {wc wr : va_W}
    (S : CallFix p m c cc nL s args Ts own) (hM : vx_Met l y ws9 rm (va_Pc (.ref b :: As) (xPreS K wc H.size)) (va_Qv post (fun (_ : Unit) t => xPost K (va_A wc H.size) wc t) (va_A wc H.size)) (xXC K (va_A wc H.size) px (fun (_ : Unit) => wc)) mc ms (va_A wc H.size)) (cw : CallW R s args own C index y bytes maxL ret ws9 rm mc ms n) (hK : va_K K.1 vwCl (kt K) s) (hP : va_P K.1 vwCl ws H) (hD : va_D A ws) (hS : va_S A s.heap H locs) (hZ : xSt A s s.heap) (hA : ∀ q : Nat, s.heap.size ≤ q → A q)
    (hperm : ws.Perm (wc ++ wr)) (q0 ci : Nat) {q : vw_C} {fs : List Value} (hc : vwCl[ci]? = some q) (hqC : q.1 = C) (he : wc[q0]? = some (b, .inr (ci, fs))) (hn : As.length = n) (hsize : ls.size = nL) (hst : st0 = As.reverse ++ .ref b :: rest) (hW : (rest.map fun v => v.category).sum ≤ 8) (hce : cells + mc ≤ R.cells) (hsl : slots + ms ≤ R.slots) (hdg : decode cc pc = .ok (.invokevirtual index, 3))
    (kx : ∀ (E : String) (ce : Cell) (q9 : Addr) (H1 : Heap) (locs1 : List Loc), px E () → va_P K.1 vwCl ws H1 → va_D A ws → va_S A s.heap H1 locs1 → H1[q9]? = some ce → ce.vm = .none → s.vm.findClass E = some ce.cls → vx_W p l e R s m args below meth c H1 locs1 (cells + mc) (slots + ms) Q (F0 m pc ls rest) q9)
    (kk : ∀ (H1 : Heap) (locs1 : List Loc), post () → va_P K.1 vwCl ws H1 → va_D A ws → va_S A s.heap H1 locs1 → W p l e R s m args below meth c H1 locs1 (cells + mc) (slots + ms) Q (F0 m (pc + 3) ls rest)) : W p l e R s m args below meth c H locs cells slots Q (F0 m pc ls st0) := by
  subst hqC
  have hP9 := P_perm hperm hP
  have hD9 := D_perm hperm hD
  have hPc := (P_app hP9).1
  have hDc := (D_app hD9).1
  have hF := A_of hDc hA hS.1
  refine vx_callv (a := (Value.ref b :: As).toArray) (rest := rest) (vx_runV (g := F0 m pc ls st0) S hM cw ⟨xPreS_blind K wc _ _, va_recv hK hPc hc he, fun U hU hW => ⟨rfl, ⟨by rw [hU], by rw [hU]; exact hPc, va_K.moved hW.alike hK, hDc.weaken (fun _ _ _ _ => trivial)⟩, hZ.call hS hF hU hW⟩⟩ rfl hn hsize hst (lv_room hW) hdg ⟨hce, hsl⟩) hS (fun q _ h => hF q h) hF (fun q _ h => hF q h) (fun E ce q9 u t H1 locs1 ht hvm _ hB hz1 hk1 hS1 hce hcv hcl => ?_) (fun u t H1 locs1 ht hvm hw hB hz1 hk1 hS1 => ?_)
  · obtain ⟨hpx, hP1, hK1, hD1⟩ := hB
    rw [ht] at hP1
    obtain ⟨hP2, hD2⟩ := back_app hP9 hD9 hF hk1 hP1 hD1
    exact kx E ce q9 H1 locs1 hpx (P_perm hperm.symm hP2) (D_perm hperm.symm hD2) hS1 hce hcv hcl
  · obtain ⟨hP1, hK1, hD1⟩ := hB
    rw [ht] at hP1
    obtain ⟨hP2, hD2⟩ := back_app hP9 hD9 hF hk1 hP1 hD1
    exact kk H1 locs1 hw (P_perm hperm.symm hP2) (D_perm hperm.symm hD2) hS1
/-- a call of a method that may throw and leaves its world as it is -/
theorem xt_Sv {px : String → Unit → Prop} {post : Unit → Prop} {y : MethodName} {bytes : ByteArray} {maxL nL n index mc ms : Nat} {ret : Option FieldType} {ws9 Ts : List Cond} {rm : Room} {own : String} {As st0 : List Value} {wc wr : va_W}
    (S : CallFix p m c cc nL s args Ts own) (hM : vx_Met l y ws9 rm (va_Pc (As) (xPreS K wc H.size)) (va_Qv post (fun (_ : Unit) t => xPost K (va_A wc H.size) wc t) (va_A wc H.size)) (xXC K (va_A wc H.size) px (fun (_ : Unit) => wc)) mc ms (va_A wc H.size)) (cw : CallB R s args own index y bytes maxL ret ws9 rm mc ms n ∧ (Cond.static y).before args s = true) (hK : va_K K.1 vwCl (kt K) s) (hP : va_P K.1 vwCl ws H) (hD : va_D A ws) (hS : va_S A s.heap H locs) (hZ : xSt A s s.heap) (hA : ∀ q : Nat, s.heap.size ≤ q → A q)
    (hperm : ws.Perm (wc ++ wr)) (hn : As.length = n) (hsize : ls.size = nL) (hst : st0 = As.reverse ++ rest) (hW : (rest.map fun v => v.category).sum ≤ 8) (hce : cells + mc ≤ R.cells) (hsl : slots + ms ≤ R.slots) (hdg : decode cc pc = .ok (.invokestatic index, 3))
    (kx : ∀ (E : String) (ce : Cell) (q9 : Addr) (H1 : Heap) (locs1 : List Loc), px E () → va_P K.1 vwCl ws H1 → va_D A ws → va_S A s.heap H1 locs1 → H1[q9]? = some ce → ce.vm = .none → s.vm.findClass E = some ce.cls → vx_W p l e R s m args below meth c H1 locs1 (cells + mc) (slots + ms) Q (F0 m pc ls rest) q9)
    (kk : ∀ (H1 : Heap) (locs1 : List Loc), post () → va_P K.1 vwCl ws H1 → va_D A ws → va_S A s.heap H1 locs1 → W p l e R s m args below meth c H1 locs1 (cells + mc) (slots + ms) Q (F0 m (pc + 3) ls rest)) : W p l e R s m args below meth c H locs cells slots Q (F0 m pc ls st0) := by
  have hP9 := P_perm hperm hP
  have hD9 := D_perm hperm hD
  have hPc := (P_app hP9).1
  have hDc := (D_app hD9).1
  have hF := A_of hDc hA hS.1
  refine vx_callv (a := (As).toArray) (rest := rest) (vx_runS (g := F0 m pc ls st0) S hM cw ⟨xPreS_blind K wc _ _, fun U hU hW => ⟨rfl, ⟨by rw [hU], by rw [hU]; exact hPc, va_K.moved hW.alike hK, hDc.weaken (fun _ _ _ _ => trivial)⟩, hZ.call hS hF hU hW⟩⟩ rfl hn hsize hst (lv_room hW) hdg ⟨hce, hsl⟩) hS (fun q _ h => hF q h) hF (fun q _ h => hF q h) (fun E ce q9 u t H1 locs1 ht hvm _ hB hz1 hk1 hS1 hce hcv hcl => ?_) (fun u t H1 locs1 ht hvm hw hB hz1 hk1 hS1 => ?_)
  · obtain ⟨hpx, hP1, hK1, hD1⟩ := hB
    rw [ht] at hP1
    obtain ⟨hP2, hD2⟩ := back_app hP9 hD9 hF hk1 hP1 hD1
    exact kx E ce q9 H1 locs1 hpx (P_perm hperm.symm hP2) (D_perm hperm.symm hD2) hS1 hce hcv hcl
  · obtain ⟨hP1, hK1, hD1⟩ := hB
    rw [ht] at hP1
    obtain ⟨hP2, hD2⟩ := back_app hP9 hD9 hF hk1 hP1 hD1
    exact kk H1 locs1 hw (P_perm hperm.symm hP2) (D_perm hperm.symm hD2) hS1
end XT
section XL
variable {p : Program} {l : Launch} {e : Env} {R : Room} {s : State} {m : MethodId} {args : Array Value} {below : List Frame} {meth : Method} {c : Code} {H : Heap} {locs : List Loc} {cells slots : Nat} {Q : State → Prop}
variable {cc : ByteArray} {pc : Nat} {ls : Array Slot} {rest : List Value}
theorem xz_st {K : KX} {A : Nat → Prop} {a : Nat} {ws : va_W} {H0 : Heap} (hx : p.tables.exec = Jvm.exec) (hb : c.code = cc) (hK : va_K K.1 vwCl (kt K) s) (hP : va_P K.1 vwCl ws H) (hD : va_D A ws) (hS : va_S A H0 H locs) (q0 : Nat) {n : Nat} {f : Nat → Int32} (ha : ws[q0]? = some (a, aZ K n f)) {i x : Int32} (j : Nat) (hi : i = nI j) (hj : j < n) (hn : n < 2 ^ 31) (hv : vp_nar .boolean x = x) (wn : va_W) (hwn : ws.set q0 (a, aZ K n (upd f j x)) = wn) (hdg : decode cc pc = .ok (.bastore, 1))
    (kk : ∀ (H1 : Heap) (locs1 : List Loc), va_P K.1 vwCl wn H1 → va_D A wn → va_S A H0 H1 locs1 → W p l e R s m args below meth c H1 locs1 cells slots Q (F0 m (pc + 1) ls rest)) : W p l e R s m args below meth c H locs cells slots Q (F0 m pc ls (.int x :: .int i :: .ref a :: rest)) := by
  subst hi
  subst hwn
  refine va_zast hx hb hK hP hD hS q0 1 ha rfl (vp_in_nI hj hn) hdg (fun H1 locs1 h1 h2 h3 => ?_)
  rw [nI_clamp (Nat.lt_trans hj hn), hv] at h1 h2
  exact kk H1 locs1 h1 h2 h3
theorem xl_cmp (hexec : p.tables.exec = Jvm.exec) (hb : c.code = cc) {x y : Int64} (hdg : decode cc pc = .ok (.lcmp, 1))
    (kg : y < x → W p l e R s m args below meth c H locs cells slots Q (F0 m (pc + 1) ls (.int 1 :: rest))) (ke : x = y → W p l e R s m args below meth c H locs cells slots Q (F0 m (pc + 1) ls (.int 0 :: rest))) (kl : ¬ y < x → ¬ x = y → W p l e R s m args below meth c H locs cells slots Q (F0 m (pc + 1) ls (.int (-1) :: rest))) : W p l e R s m args below meth c H locs cells slots Q (F0 m pc ls (.long y :: .long x :: rest)) := by
  intro T hT X
  by_cases h1 : y < x
  · obtain ⟨t, a, b⟩ := kg h1 T hT X
    refine ⟨t, ?_, b⟩
    jvm_step X.here [X.here.top, hexec, hb, hdg, h1]
    exact a
  · by_cases h2 : x = y
    · obtain ⟨t, a, b⟩ := ke h2 T hT X
      refine ⟨t, ?_, b⟩
      subst h2
      jvm_step X.here [X.here.top, hexec, hb, hdg, h1]
      exact a
    · obtain ⟨t, a, b⟩ := kl h1 h2 T hT X
      refine ⟨t, ?_, b⟩
      jvm_step X.here [X.here.top, hexec, hb, hdg, h1, h2]
      exact a
end XL
theorem sl_in {v : Int32} (h1 : 0 ≤ v) (h2 : v < 2) : 0 ≤ v ∧ v ≤ 1 := by
  refine ⟨h1, ?_⟩
  have a := Int32.lt_iff_toInt_lt.mp h2
  have b : (2 : Int32).toInt = 2 := by decide
  have c : (1 : Int32).toInt = 1 := by decide
  exact Int32.le_iff_toInt_le.mpr (by omega)
theorem sl_out {v : Int32} (z : 0 ≤ v ∧ v ≤ 1) (h2 : 2 ≤ v) : False := by
  have a := Int32.le_iff_toInt_le.mp h2
  have d := Int32.le_iff_toInt_le.mp z.2
  have b : (2 : Int32).toInt = 2 := by decide
  have c : (1 : Int32).toInt = 1 := by decide
  omega

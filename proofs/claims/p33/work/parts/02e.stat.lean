/-! statics that nobody writes, carried with a method's world; starts and calls of the methods that need them -/
theorem bI_fits {p : Prop} [Decidable p] : fits .boolean (.int (bI p)) = true := by
  unfold bI
  split <;> rfl
def sFst : Nat → Int32 := fun j => if j = 0 then 5 else if j = 1 then 10 else if j = 2 then 2 else if j = 3 then 5 else 15
def sLst : Nat → Int32 := fun j => if j = 0 then 1 else 0
def sMst : Nat → Int32 := fun j => if j = 0 then 9 else if j = 1 then 99 else if j = 2 then 20 else if j = 3 then 50 else 99
def xArr (n : String) (f : Nat → Int32) (A : Nat → Prop) (U : State) (H : Heap) : Prop := ∃ t : Nat, va_Z "StandIns" n "[I" (.ref t) A U H ∧ va_T .int t 5 (fun j => .int (f j)) A U H
theorem xArr.moved {n : String} {f : Nat → Int32} {A : Nat → Prop} {u U : State} {H : Heap} (hvm : u.vm.Alike U.vm) (h : xArr n f A u H) : xArr n f A U H := by
  obtain ⟨t, h1, h2⟩ := h
  exact ⟨t, va_Z.moved hvm h1, va_T.moved hvm h2⟩
theorem xArr.kept {n : String} {f : Nat → Int32} {A : Nat → Prop} {U : State} {H H1 : Heap} (h : xArr n f A U H) (hq : ∀ a : Nat, a < H.size → ¬ A a → H1[a]? = H[a]?) : xArr n f A U H1 := by
  obtain ⟨t, h1, h2⟩ := h
  exact ⟨t, h1.kept hq, h2.kept hq⟩
theorem xArr.narrow {n : String} {f : Nat → Int32} {A B : Nat → Prop} {U : State} {H : Heap} (h : xArr n f A U H) (hAB : ∀ q, B q → A q) : xArr n f B U H := by
  obtain ⟨t, h1, h2⟩ := h
  exact ⟨t, h1.narrow hAB, h2.narrow hAB⟩
/-- the texts that are thrown, the classes that are thrown: what the tables say of them -/
def strL : List (Nat × String) := [(117, "no such number"), (146, "no such number of a role"), (170, "no such number of a player"), (182, "no such number of a player and a role"), (187, "there is no negative place"), (195, "no role can be added"), (207, "no player can be added"), (223, "there are no roles"), (225, "there is no cast"), (244, "nobody has played it more often"), (260, "no state is remembered"), (311, "there is no such role"), (317, "there is no such player"), (321, "an argument is out of its range")]
def exI : String := "java/lang/IndexOutOfBoundsException"
def exA : String := "java/lang/IllegalArgumentException"
def exS : String := "java/lang/IllegalStateException"
def exSup : List String := ["java/lang/RuntimeException", "java/lang/Exception", "java/lang/Throwable"]
def nestL : List (Nat × MethodName) := [(9, yX3_init), (25, yX0_init), (32, yX4_init)]
def xEv (U : State) : Prop := (∀ q ∈ strL, ∃ a : Nat, vk_R "StandIns" q.1 q.2 a U) ∧ (∀ X ∈ [exI, exA, exS], va_Nw (.castable X X) U ∧ ∀ C ∈ exSup, va_Nw (.declares ⟨C, "<init>", "(Ljava/lang/String;)V"⟩) U) ∧ (∀ q ∈ [(exI, exS), (exA, exS)], va_Nc q.1 q.2 U) ∧ (∀ q ∈ nestL, va_Nw (.methodLinkNest "StandIns" q.1 q.2 "StandIns") U) ∧ va_Nw (.fieldLinkNest "StandIns$House" 49 "StandIns" "SETTING_AT_FIRST" "[I" "StandIns") U ∧ va_Nw (.fieldLink "StandIns" 246 "StandIns" "SETTING_LEAST" "[I") U ∧ va_Nw (.fieldLink "StandIns" 250 "StandIns" "SETTING_MOST" "[I") U ∧ va_AO "StandIns$House" U
theorem xEv.warm {s U : State} (hW : s.WarmedH U.vm) (h : xEv s) : xEv U := by
  refine ⟨fun q hq => ?_, fun X hX => ⟨va_Nw.warmC hW (h.2.1 X hX).1, fun C hC => va_Nw.warmD hW ((h.2.1 X hX).2 C hC)⟩, fun q hq => va_Nc.moved hW.alike (h.2.2.1 q hq), fun q hq => va_Nw.warmM hW (h.2.2.2.1 q hq), va_Nw.warmF hW h.2.2.2.2.1, word_at hW (Or.inl rfl) h.2.2.2.2.2.1, word_at hW (Or.inl rfl) h.2.2.2.2.2.2.1, va_AO.moved hW.alike h.2.2.2.2.2.2.2⟩
  obtain ⟨a, ha⟩ := h.1 q hq
  exact ⟨a, vk_R.warm hW ha⟩
def xSt (A : Nat → Prop) (U : State) (H : Heap) : Prop := xArr "SETTING_AT_FIRST" sFst A U H ∧ xArr "SETTING_LEAST" sLst A U H ∧ xArr "SETTING_MOST" sMst A U H ∧ vx_Zq Bundle.tN "UNASSIGNED_STACK" Bundle.steD A U H ∧ vx_Zq Bundle.tN "SUPPRESSED_SENTINEL" Bundle.listD A U H ∧ xEv U
theorem xSt.call {A B : Nat → Prop} {s U : State} {H : Heap} {locs : List Loc} (h : xSt A s s.heap) (hS : va_S A s.heap H locs) (hAB : ∀ q, B q → A q) (hU : U.heap = H) (hW : s.WarmedH U.vm) : xSt B U U.heap := by
  obtain ⟨h1, h2, h3, h4, h5, h6⟩ := h
  rw [hU]
  exact ⟨((h1.kept hS.2.1).narrow hAB).moved hW.alike, ((h2.kept hS.2.1).narrow hAB).moved hW.alike, ((h3.kept hS.2.1).narrow hAB).moved hW.alike, (vx_Zq.narrow (vx_Zq.kept h4 hS.2.1) hAB).moved hW.alike, (vx_Zq.narrow (vx_Zq.kept h5 hS.2.1) hAB).moved hW.alike, h6.warm hW⟩
def xPreS (K : KX) (ws : va_W) (sz : Nat) (U : State) : Prop := xPre K ws sz U ∧ xSt (va_A ws sz) U U.heap
theorem xPreS_blind (K : KX) (ws : va_W) (sz : Nat) (av : List Value) : FrameBlind (va_Pc av (xPreS K ws sz)) := by
  intro a U g mk h
  have h1 := xPre_blind K ws sz av a U g mk ⟨h.1, h.2.1⟩
  exact ⟨h1.1, h1.2, xSt.call h.2.2 va_S.rf (fun _ q => q) rfl (State.WarmedH.refl U)⟩
section XS
variable {p : Program} {l : Launch} {e : Env} {R : Room} {s : State} {m : MethodId} {args : Array Value} {below : List Frame} {meth : Method} {c : Code} {H : Heap} {locs : List Loc} {cells slots : Nat} {Q : State → Prop}
variable {cc : ByteArray} {pc : Nat} {ls : Array Slot} {rest : List Value} {K : KX} {A : Nat → Prop} {a : Nat} {ws : va_W} {H0 : Heap}
theorem xs_starti {S9 : Type} {post : Int32 → S9 → Prop} {w1 : S9 → va_W} {y : MethodName} {ws9 ws' : List Cond} {rm : Room} {maxL mc ms sz : Nat} {av : List Value} {wk : va_W} (hy : plainName y.cls = true) (hw : ws9 = Cond.code y cc maxL (some .int) :: ws') (hlen : (lg_sl av).length ≤ maxL)
    (body : ∀ (p : Program) (e : Env) (s : State) (m : MethodId) (below : List Frame) (meth : Method) (c : Code) (H : Heap) (locs : List Loc) (ls : Array Slot) (A : Nat → Prop) (av9 : Array Value) (Q9 : State → Prop), p.tables.exec = Jvm.exec → c.code = cc → meth.locks = false → c.maxLocals = maxL → meth.name = y.name → (∀ w ∈ ws9, w.before av9 s = true) → s.vm.findClass y.cls = some m.cls → va_K K.1 vwCl (kt K) s → va_P K.1 vwCl wk H → va_D A wk → va_S A s.heap H locs → (∀ q : Nat, s.heap.size ≤ q → A q) → A = va_A wk sz → xSt A s s.heap →
      (∀ (H1 : Heap) (locs1 : List Loc) (cells slots pc : Nat) (ls : Array Slot) (v : Int32) (u : S9), va_P K.1 vwCl (w1 u) H1 → va_D A (w1 u) → va_S A s.heap H1 locs1 → cells ≤ mc → slots ≤ ms → post v u → decode cc pc = .ok (.ireturn, 1) → W p l e rm s m av9 below meth c H1 locs1 cells slots Q9 (F0 m pc ls [.int v])) → lv_has ls maxL (lv_args 0 av) →
      W p l e rm s m av9 below meth c H locs 0 0 Q9 (F0 m 0 ls [])) : Met l y ws9 rm (va_Pc av (xPreS K wk sz)) (va_Qi post (fun u t => xPost K (va_A wk sz) (w1 u) t) (va_A wk sz)) mc ms (va_A wk sz) := by
  refine Met.ofW (cc := cc) (maxL := maxL) (ret := (some .int)) hy hw ?_
  intro p e s m args below meth c s₁ B hml hv
  obtain ⟨rfl, ⟨hsz, hP, hK, hD⟩, hZ⟩ := hv
  rw [lg_entry_eq]
  exact body p e s m below meth c _ _ _ _ _ _ B.exec B.bytes B.notSynchronized hml (name_of_methodNamed B.named B.method).1 (atoms_spec (ws := ws9) B.pre) (findClass_of_methodNamed B.named) hK hP hD.self va_S.rf (fun q h => Or.inr (by omega)) rfl hZ (fun H1 locs1 cells slots pc ls v u hP hD hS hc hs hq hdg => W.widen hc hs (W.iret B.exec B.bytes B.returns (fun t ht hW => ⟨⟨v, u, rfl, hq, by rw [ht]; exact hP, va_K.moved hW.alike hK, hD⟩, hS.F ht⟩) hS.2.2 hdg B.notSynchronized)) (lv_entry av hlen)
theorem xs_startz {S9 : Type} {post : Int32 → S9 → Prop} {w1 : S9 → va_W} {y : MethodName} {ws9 ws' : List Cond} {rm : Room} {maxL mc ms sz : Nat} {ret : FieldType} {av : List Value} {wk : va_W} (hy : plainName y.cls = true) (hw : ws9 = Cond.code y cc maxL (some ret) :: ws') (hlen : (lg_sl av).length ≤ maxL)
    (body : ∀ (p : Program) (e : Env) (s : State) (m : MethodId) (below : List Frame) (meth : Method) (c : Code) (H : Heap) (locs : List Loc) (ls : Array Slot) (A : Nat → Prop) (av9 : Array Value) (Q9 : State → Prop), p.tables.exec = Jvm.exec → c.code = cc → meth.locks = false → c.maxLocals = maxL → meth.name = y.name → (∀ w ∈ ws9, w.before av9 s = true) → s.vm.findClass y.cls = some m.cls → va_K K.1 vwCl (kt K) s → va_P K.1 vwCl wk H → va_D A wk → va_S A s.heap H locs → (∀ q : Nat, s.heap.size ≤ q → A q) → A = va_A wk sz → xSt A s s.heap →
      (∀ (H1 : Heap) (locs1 : List Loc) (cells slots pc : Nat) (ls : Array Slot) (v : Int32), narrow ret (.int v) = .int v → ∀ (u : S9), va_P K.1 vwCl (w1 u) H1 → va_D A (w1 u) → va_S A s.heap H1 locs1 → cells ≤ mc → slots ≤ ms → post v u → decode cc pc = .ok (.ireturn, 1) → W p l e rm s m av9 below meth c H1 locs1 cells slots Q9 (F0 m pc ls [.int v])) → lv_has ls maxL (lv_args 0 av) →
      W p l e rm s m av9 below meth c H locs 0 0 Q9 (F0 m 0 ls [])) : Met l y ws9 rm (va_Pc av (xPreS K wk sz)) (va_Qi post (fun u t => xPost K (va_A wk sz) (w1 u) t) (va_A wk sz)) mc ms (va_A wk sz) := by
  refine Met.ofW (cc := cc) (maxL := maxL) (ret := (some ret)) hy hw ?_
  intro p e s m args below meth c s₁ B hml hv
  obtain ⟨rfl, ⟨hsz, hP, hK, hD⟩, hZ⟩ := hv
  rw [lg_entry_eq]
  exact body p e s m below meth c _ _ _ _ _ _ B.exec B.bytes B.notSynchronized hml (name_of_methodNamed B.named B.method).1 (atoms_spec (ws := ws9) B.pre) (findClass_of_methodNamed B.named) hK hP hD.self va_S.rf (fun q h => Or.inr (by omega)) rfl hZ (fun H1 locs1 cells slots pc ls v hn u hP hD hS hc hs hq hdg => W.widen hc hs (W.zret B.exec B.bytes B.returns hn (fun t ht hW => ⟨⟨v, u, rfl, hq, by rw [ht]; exact hP, va_K.moved hW.alike hK, hD⟩, hS.F ht⟩) hS.2.2 hdg B.notSynchronized)) (lv_entry av hlen)
theorem xs_startv {S9 : Type} {post : S9 → Prop} {w1 : S9 → va_W} {y : MethodName} {ws9 ws' : List Cond} {rm : Room} {maxL mc ms sz : Nat} {av : List Value} {wk : va_W} (hy : plainName y.cls = true) (hw : ws9 = Cond.code y cc maxL none :: ws') (hlen : (lg_sl av).length ≤ maxL)
    (body : ∀ (p : Program) (e : Env) (s : State) (m : MethodId) (below : List Frame) (meth : Method) (c : Code) (H : Heap) (locs : List Loc) (ls : Array Slot) (A : Nat → Prop) (av9 : Array Value) (Q9 : State → Prop), p.tables.exec = Jvm.exec → c.code = cc → meth.locks = false → c.maxLocals = maxL → meth.name = y.name → (∀ w ∈ ws9, w.before av9 s = true) → s.vm.findClass y.cls = some m.cls → va_K K.1 vwCl (kt K) s → va_P K.1 vwCl wk H → va_D A wk → va_S A s.heap H locs → (∀ q : Nat, s.heap.size ≤ q → A q) → A = va_A wk sz → xSt A s s.heap →
      (∀ (H1 : Heap) (locs1 : List Loc) (cells slots pc : Nat) (ls : Array Slot) (u : S9), va_P K.1 vwCl (w1 u) H1 → va_D A (w1 u) → va_S A s.heap H1 locs1 → cells ≤ mc → slots ≤ ms → post u → decode cc pc = .ok (.return_, 1) → W p l e rm s m av9 below meth c H1 locs1 cells slots Q9 (F0 m pc ls [])) → lv_has ls maxL (lv_args 0 av) →
      W p l e rm s m av9 below meth c H locs 0 0 Q9 (F0 m 0 ls [])) : Met l y ws9 rm (va_Pc av (xPreS K wk sz)) (va_Qv post (fun u t => xPost K (va_A wk sz) (w1 u) t) (va_A wk sz)) mc ms (va_A wk sz) := by
  refine Met.ofW (cc := cc) (maxL := maxL) (ret := none) hy hw ?_
  intro p e s m args below meth c s₁ B hml hv
  obtain ⟨rfl, ⟨hsz, hP, hK, hD⟩, hZ⟩ := hv
  rw [lg_entry_eq]
  exact body p e s m below meth c _ _ _ _ _ _ B.exec B.bytes B.notSynchronized hml (name_of_methodNamed B.named B.method).1 (atoms_spec (ws := ws9) B.pre) (findClass_of_methodNamed B.named) hK hP hD.self va_S.rf (fun q h => Or.inr (by omega)) rfl hZ (fun H1 locs1 cells slots pc ls u hP hD hS hc hs hq hdg => W.widen hc hs (W.vret B.exec B.bytes B.returns (fun t ht hW => ⟨⟨u, rfl, hq, by rw [ht]; exact hP, va_K.moved hW.alike hK, hD⟩, hS.F ht⟩) hS.2.2 hdg B.notSynchronized)) (lv_entry av hlen)
theorem xs_Vi {S9 : Type} {post : Int32 → S9 → Prop} {w1 : S9 → va_W} {y : MethodName} {bytes : ByteArray} {maxL nL n index mc ms : Nat} {ret : Option FieldType} {ws9 Ts : List Cond} {rm : Room} {own C : String} {b : Nat} {As st0 : List Value} {wc wr : va_W}
    (S : CallFix p m c cc nL s args Ts own) (hM : Met l y ws9 rm (va_Pc (.ref b :: As) (xPreS K wc H.size)) (va_Qi post (fun u t => xPost K (va_A wc H.size) (w1 u) t) (va_A wc H.size)) mc ms (va_A wc H.size)) (cw : CallW R s args own C index y bytes maxL ret ws9 rm mc ms n) (hK : va_K K.1 vwCl (kt K) s) (hP : va_P K.1 vwCl ws H) (hD : va_D A ws) (hS : va_S A s.heap H locs) (hZ : xSt A s s.heap) (hA : ∀ q : Nat, s.heap.size ≤ q → A q)
    (isC isR perm : List Nat) (hC : isC.map (fun i => ws[i]?) = wc.map some) (hR : isR.map (fun i => ws[i]?) = wr.map some) (hok : x_ok isC isR perm = true) (wn : S9 → va_W) (hp : ∀ u, perm.map (fun i => (wr ++ w1 u)[i]?) = (wn u).map some) (q0 ci : Nat) {q : vw_C} {fs : List Value} (hc : vwCl[ci]? = some q) (hqC : q.1 = C) (he : wc[q0]? = some (b, .inr (ci, fs))) (hn : As.length = n) (hsize : ls.size = nL) (hst : st0 = As.reverse ++ .ref b :: rest) (hW : (rest.map fun v => v.category).sum ≤ 8) (hce : cells + mc ≤ R.cells) (hsl : slots + ms ≤ R.slots) (hdg : decode cc pc = .ok (.invokevirtual index, 3))
    (kk : ∀ (r : Int32) (u : S9) (H1 : Heap) (locs1 : List Loc), post r u → va_P K.1 vwCl (wn u) H1 → va_D A (wn u) → va_S A s.heap H1 locs1 → W p l e R s m args below meth c H1 locs1 (cells + mc) (slots + ms) Q (F0 m (pc + 3) ls (.int r :: rest))) : W p l e R s m args below meth c H locs cells slots Q (F0 m pc ls st0) := by
  subst hqC
  have hok2 := x_ok_spec hok
  have hPc := P_sub hP isC hC
  have hDc := hD.sub isC hok2.1 hC
  have hF := va_free (wc := wc) hD hS hA isC hC
  refine va_calli (a := (Value.ref b :: As).toArray) (rest := rest) (va_runV S hM cw ⟨xPreS_blind K wc _ _, va_recv hK hPc hc he, fun U hU hW => ⟨rfl, ⟨by rw [hU], by rw [hU]; exact hPc, va_K.moved hW.alike hK, hDc.weaken (fun _ _ _ _ => trivial)⟩, hZ.call hS hF hU hW⟩⟩ rfl hn hsize hst (lv_room hW) hdg ⟨hce, hsl⟩) hS (fun q _ h => hF q h) hF (fun r u t H1 locs1 ht hvm hw hB hz1 hk1 hS1 => ?_)
  obtain ⟨hP1, hK1, hD1⟩ := hB
  rw [ht] at hP1
  obtain ⟨hP2, hD2⟩ := xw_back hP hD isC isR perm hC hR hok hF (hp u) hk1 hP1 hD1
  exact kk r u H1 locs1 hw hP2 hD2 hS1
theorem xs_Vv {S9 : Type} {post : S9 → Prop} {w1 : S9 → va_W} {y : MethodName} {bytes : ByteArray} {maxL nL n index mc ms : Nat} {ret : Option FieldType} {ws9 Ts : List Cond} {rm : Room} {own C : String} {b : Nat} {As st0 : List Value} {wc wr : va_W}
    (S : CallFix p m c cc nL s args Ts own) (hM : Met l y ws9 rm (va_Pc (.ref b :: As) (xPreS K wc H.size)) (va_Qv post (fun u t => xPost K (va_A wc H.size) (w1 u) t) (va_A wc H.size)) mc ms (va_A wc H.size)) (cw : CallW R s args own C index y bytes maxL ret ws9 rm mc ms n) (hK : va_K K.1 vwCl (kt K) s) (hP : va_P K.1 vwCl ws H) (hD : va_D A ws) (hS : va_S A s.heap H locs) (hZ : xSt A s s.heap) (hA : ∀ q : Nat, s.heap.size ≤ q → A q)
    (isC isR perm : List Nat) (hC : isC.map (fun i => ws[i]?) = wc.map some) (hR : isR.map (fun i => ws[i]?) = wr.map some) (hok : x_ok isC isR perm = true) (wn : S9 → va_W) (hp : ∀ u, perm.map (fun i => (wr ++ w1 u)[i]?) = (wn u).map some) (q0 ci : Nat) {q : vw_C} {fs : List Value} (hc : vwCl[ci]? = some q) (hqC : q.1 = C) (he : wc[q0]? = some (b, .inr (ci, fs))) (hn : As.length = n) (hsize : ls.size = nL) (hst : st0 = As.reverse ++ .ref b :: rest) (hW : (rest.map fun v => v.category).sum ≤ 8) (hce : cells + mc ≤ R.cells) (hsl : slots + ms ≤ R.slots) (hdg : decode cc pc = .ok (.invokevirtual index, 3))
    (kk : ∀ (u : S9) (H1 : Heap) (locs1 : List Loc), post u → va_P K.1 vwCl (wn u) H1 → va_D A (wn u) → va_S A s.heap H1 locs1 → W p l e R s m args below meth c H1 locs1 (cells + mc) (slots + ms) Q (F0 m (pc + 3) ls rest)) : W p l e R s m args below meth c H locs cells slots Q (F0 m pc ls st0) := by
  subst hqC
  have hok2 := x_ok_spec hok
  have hPc := P_sub hP isC hC
  have hDc := hD.sub isC hok2.1 hC
  have hF := va_free (wc := wc) hD hS hA isC hC
  refine va_callv (a := (Value.ref b :: As).toArray) (rest := rest) (va_runV S hM cw ⟨xPreS_blind K wc _ _, va_recv hK hPc hc he, fun U hU hW => ⟨rfl, ⟨by rw [hU], by rw [hU]; exact hPc, va_K.moved hW.alike hK, hDc.weaken (fun _ _ _ _ => trivial)⟩, hZ.call hS hF hU hW⟩⟩ rfl hn hsize hst (lv_room hW) hdg ⟨hce, hsl⟩) hS (fun q _ h => hF q h) hF (fun u t H1 locs1 ht hvm hw hB hz1 hk1 hS1 => ?_)
  obtain ⟨hP1, hK1, hD1⟩ := hB
  rw [ht] at hP1
  obtain ⟨hP2, hD2⟩ := xw_back hP hD isC isR perm hC hR hok hF (hp u) hk1 hP1 hD1
  exact kk u H1 locs1 hw hP2 hD2 hS1
theorem xw_I {S9 : Type} {post : S9 → Prop} {w1 : S9 → va_W} {y : MethodName} {bytes : ByteArray} {maxL nL n index mc ms : Nat} {ws9 Ts : List Cond} {rm : Room} {own : String} {b : Nat} {As st0 : List Value} {wc wr : va_W}
    (S : CallFix p m c cc nL s args Ts own) (hM : Met l y ws9 rm (va_Pc (.ref b :: As) (xPre K wc H.size)) (va_Qv post (fun u t => xPost K (va_A wc H.size) (w1 u) t) (va_A wc H.size)) mc ms (va_A wc H.size)) (cw : CallB R s args own index y bytes maxL none ws9 rm mc ms n ∧ y.name = "<init>" ∧ (Cond.instanceMethod y).before args s = true) (hK : va_K K.1 vwCl (kt K) s) (hP : va_P K.1 vwCl ws H) (hD : va_D A ws) (hS : va_S A s.heap H locs) (hA : ∀ q : Nat, s.heap.size ≤ q → A q)
    (isC isR perm : List Nat) (hC : isC.map (fun i => ws[i]?) = wc.map some) (hR : isR.map (fun i => ws[i]?) = wr.map some) (hok : x_ok isC isR perm = true) (wn : S9 → va_W) (hp : ∀ u, perm.map (fun i => (wr ++ w1 u)[i]?) = (wn u).map some) (hn : As.length = n) (hsize : ls.size = nL) (hst : st0 = As.reverse ++ .ref b :: rest) (hW : (rest.map fun v => v.category).sum ≤ 8) (hce : cells + mc ≤ R.cells) (hsl : slots + ms ≤ R.slots) (hdg : decode cc pc = .ok (.invokespecial index, 3))
    (kk : ∀ (u : S9) (H1 : Heap) (locs1 : List Loc), post u → va_P K.1 vwCl (wn u) H1 → va_D A (wn u) → va_S A s.heap H1 locs1 → W p l e R s m args below meth c H1 locs1 (cells + mc) (slots + ms) Q (F0 m (pc + 3) ls rest)) : W p l e R s m args below meth c H locs cells slots Q (F0 m pc ls st0) := by
  have hok2 := x_ok_spec hok
  have hPc := P_sub hP isC hC
  have hDc := hD.sub isC hok2.1 hC
  have hF := va_free (wc := wc) hD hS hA isC hC
  refine va_callv (a := (Value.ref b :: As).toArray) (rest := rest) (va_runI S hM cw ⟨xPre_blind K wc _ _, fun U hU hW => ⟨rfl, by rw [hU], by rw [hU]; exact hPc, va_K.moved hW.alike hK, hDc.weaken (fun _ _ _ _ => trivial)⟩⟩ rfl hn hsize hst (lv_room hW) hdg ⟨hce, hsl⟩) hS (fun q _ h => hF q h) hF (fun u t H1 locs1 ht hvm hw hB hz1 hk1 hS1 => ?_)
  obtain ⟨hP1, hK1, hD1⟩ := hB
  rw [ht] at hP1
  obtain ⟨hP2, hD2⟩ := xw_back hP hD isC isR perm hC hR hok hF (hp u) hk1 hP1 hD1
  exact kk u H1 locs1 hw hP2 hD2 hS1
theorem xs_I {S9 : Type} {post : S9 → Prop} {w1 : S9 → va_W} {y : MethodName} {bytes : ByteArray} {maxL nL n index mc ms : Nat} {ws9 Ts : List Cond} {rm : Room} {own : String} {b : Nat} {As st0 : List Value} {wc wr : va_W}
    (S : CallFix p m c cc nL s args Ts own) (hM : Met l y ws9 rm (va_Pc (.ref b :: As) (xPreS K wc H.size)) (va_Qv post (fun u t => xPost K (va_A wc H.size) (w1 u) t) (va_A wc H.size)) mc ms (va_A wc H.size)) (cw : CallB R s args own index y bytes maxL none ws9 rm mc ms n ∧ y.name = "<init>" ∧ (Cond.instanceMethod y).before args s = true) (hK : va_K K.1 vwCl (kt K) s) (hP : va_P K.1 vwCl ws H) (hD : va_D A ws) (hS : va_S A s.heap H locs) (hZ : xSt A s s.heap) (hA : ∀ q : Nat, s.heap.size ≤ q → A q)
    (isC isR perm : List Nat) (hC : isC.map (fun i => ws[i]?) = wc.map some) (hR : isR.map (fun i => ws[i]?) = wr.map some) (hok : x_ok isC isR perm = true) (wn : S9 → va_W) (hp : ∀ u, perm.map (fun i => (wr ++ w1 u)[i]?) = (wn u).map some) (hn : As.length = n) (hsize : ls.size = nL) (hst : st0 = As.reverse ++ .ref b :: rest) (hW : (rest.map fun v => v.category).sum ≤ 8) (hce : cells + mc ≤ R.cells) (hsl : slots + ms ≤ R.slots) (hdg : decode cc pc = .ok (.invokespecial index, 3))
    (kk : ∀ (u : S9) (H1 : Heap) (locs1 : List Loc), post u → va_P K.1 vwCl (wn u) H1 → va_D A (wn u) → va_S A s.heap H1 locs1 → W p l e R s m args below meth c H1 locs1 (cells + mc) (slots + ms) Q (F0 m (pc + 3) ls rest)) : W p l e R s m args below meth c H locs cells slots Q (F0 m pc ls st0) := by
  have hok2 := x_ok_spec hok
  have hPc := P_sub hP isC hC
  have hDc := hD.sub isC hok2.1 hC
  have hF := va_free (wc := wc) hD hS hA isC hC
  refine va_callv (a := (Value.ref b :: As).toArray) (rest := rest) (va_runI S hM cw ⟨xPreS_blind K wc _ _, fun U hU hW => ⟨rfl, ⟨by rw [hU], by rw [hU]; exact hPc, va_K.moved hW.alike hK, hDc.weaken (fun _ _ _ _ => trivial)⟩, hZ.call hS hF hU hW⟩⟩ rfl hn hsize hst (lv_room hW) hdg ⟨hce, hsl⟩) hS (fun q _ h => hF q h) hF (fun u t H1 locs1 ht hvm hw hB hz1 hk1 hS1 => ?_)
  obtain ⟨hP1, hK1, hD1⟩ := hB
  rw [ht] at hP1
  obtain ⟨hP2, hD2⟩ := xw_back hP hD isC isR perm hC hR hok hF (hp u) hk1 hP1 hD1
  exact kk u H1 locs1 hw hP2 hD2 hS1
theorem xw_IN {S9 : Type} {post : S9 → Prop} {w1 : S9 → va_W} {y : MethodName} {bytes : ByteArray} {maxL nL n index mc ms : Nat} {ws9 Ts : List Cond} {rm : Room} {own host : String} {b : Nat} {As st0 : List Value} {wc wr : va_W}
    (S : CallFix p m c cc nL s args Ts own) (hM : Met l y ws9 rm (va_Pc (.ref b :: As) (xPre K wc H.size)) (va_Qv post (fun u t => xPost K (va_A wc H.size) (w1 u) t) (va_A wc H.size)) mc ms (va_A wc H.size)) (cw : va_CN R s args own index y host bytes maxL none ws9 rm mc ms n ∧ y.name = "<init>" ∧ (Cond.instanceMethod y).before args s = true) (hK : va_K K.1 vwCl (kt K) s) (hP : va_P K.1 vwCl ws H) (hD : va_D A ws) (hS : va_S A s.heap H locs) (hA : ∀ q : Nat, s.heap.size ≤ q → A q)
    (isC isR perm : List Nat) (hC : isC.map (fun i => ws[i]?) = wc.map some) (hR : isR.map (fun i => ws[i]?) = wr.map some) (hok : x_ok isC isR perm = true) (wn : S9 → va_W) (hp : ∀ u, perm.map (fun i => (wr ++ w1 u)[i]?) = (wn u).map some) (hn : As.length = n) (hsize : ls.size = nL) (hst : st0 = As.reverse ++ .ref b :: rest) (hW : (rest.map fun v => v.category).sum ≤ 8) (hce : cells + mc ≤ R.cells) (hsl : slots + ms ≤ R.slots) (hdg : decode cc pc = .ok (.invokespecial index, 3))
    (kk : ∀ (u : S9) (H1 : Heap) (locs1 : List Loc), post u → va_P K.1 vwCl (wn u) H1 → va_D A (wn u) → va_S A s.heap H1 locs1 → W p l e R s m args below meth c H1 locs1 (cells + mc) (slots + ms) Q (F0 m (pc + 3) ls rest)) : W p l e R s m args below meth c H locs cells slots Q (F0 m pc ls st0) := by
  have hok2 := x_ok_spec hok
  have hPc := P_sub hP isC hC
  have hDc := hD.sub isC hok2.1 hC
  have hF := va_free (wc := wc) hD hS hA isC hC
  refine va_callv (a := (Value.ref b :: As).toArray) (rest := rest) (va_runIN S hM cw ⟨xPre_blind K wc _ _, fun U hU hW => ⟨rfl, by rw [hU], by rw [hU]; exact hPc, va_K.moved hW.alike hK, hDc.weaken (fun _ _ _ _ => trivial)⟩⟩ rfl hn hsize hst (lv_room hW) hdg ⟨hce, hsl⟩) hS (fun q _ h => hF q h) hF (fun u t H1 locs1 ht hvm hw hB hz1 hk1 hS1 => ?_)
  obtain ⟨hP1, hK1, hD1⟩ := hB
  rw [ht] at hP1
  obtain ⟨hP2, hD2⟩ := xw_back hP hD isC isR perm hC hR hok hF (hp u) hk1 hP1 hD1
  exact kk u H1 locs1 hw hP2 hD2 hS1
theorem xs_IN {S9 : Type} {post : S9 → Prop} {w1 : S9 → va_W} {y : MethodName} {bytes : ByteArray} {maxL nL n index mc ms : Nat} {ws9 Ts : List Cond} {rm : Room} {own host : String} {b : Nat} {As st0 : List Value} {wc wr : va_W}
    (S : CallFix p m c cc nL s args Ts own) (hM : Met l y ws9 rm (va_Pc (.ref b :: As) (xPreS K wc H.size)) (va_Qv post (fun u t => xPost K (va_A wc H.size) (w1 u) t) (va_A wc H.size)) mc ms (va_A wc H.size)) (cw : va_CN R s args own index y host bytes maxL none ws9 rm mc ms n ∧ y.name = "<init>" ∧ (Cond.instanceMethod y).before args s = true) (hK : va_K K.1 vwCl (kt K) s) (hP : va_P K.1 vwCl ws H) (hD : va_D A ws) (hS : va_S A s.heap H locs) (hZ : xSt A s s.heap) (hA : ∀ q : Nat, s.heap.size ≤ q → A q)
    (isC isR perm : List Nat) (hC : isC.map (fun i => ws[i]?) = wc.map some) (hR : isR.map (fun i => ws[i]?) = wr.map some) (hok : x_ok isC isR perm = true) (wn : S9 → va_W) (hp : ∀ u, perm.map (fun i => (wr ++ w1 u)[i]?) = (wn u).map some) (hn : As.length = n) (hsize : ls.size = nL) (hst : st0 = As.reverse ++ .ref b :: rest) (hW : (rest.map fun v => v.category).sum ≤ 8) (hce : cells + mc ≤ R.cells) (hsl : slots + ms ≤ R.slots) (hdg : decode cc pc = .ok (.invokespecial index, 3))
    (kk : ∀ (u : S9) (H1 : Heap) (locs1 : List Loc), post u → va_P K.1 vwCl (wn u) H1 → va_D A (wn u) → va_S A s.heap H1 locs1 → W p l e R s m args below meth c H1 locs1 (cells + mc) (slots + ms) Q (F0 m (pc + 3) ls rest)) : W p l e R s m args below meth c H locs cells slots Q (F0 m pc ls st0) := by
  have hok2 := x_ok_spec hok
  have hPc := P_sub hP isC hC
  have hDc := hD.sub isC hok2.1 hC
  have hF := va_free (wc := wc) hD hS hA isC hC
  refine va_callv (a := (Value.ref b :: As).toArray) (rest := rest) (va_runIN S hM cw ⟨xPreS_blind K wc _ _, fun U hU hW => ⟨rfl, ⟨by rw [hU], by rw [hU]; exact hPc, va_K.moved hW.alike hK, hDc.weaken (fun _ _ _ _ => trivial)⟩, hZ.call hS hF hU hW⟩⟩ rfl hn hsize hst (lv_room hW) hdg ⟨hce, hsl⟩) hS (fun q _ h => hF q h) hF (fun u t H1 locs1 ht hvm hw hB hz1 hk1 hS1 => ?_)
  obtain ⟨hP1, hK1, hD1⟩ := hB
  rw [ht] at hP1
  obtain ⟨hP2, hD2⟩ := xw_back hP hD isC isR perm hC hR hok hF (hp u) hk1 hP1 hD1
  exact kk u H1 locs1 hw hP2 hD2 hS1
/-- a static array of the class, and its places -/
theorem xs_get {n own : String} {f : Nat → Int32} {index : Nat} (hx : p.tables.exec = Jvm.exec) (hb : c.code = cc) (hZ : xArr n f A s s.heap) (hS : va_S A s.heap H locs) (hown : s.vm.findClass own = some m.cls) (hlink : (Cond.fieldLink own index "StandIns" n "[I").before args s = true) (hdg : decode cc pc = .ok (.getstatic index, 3))
    (kk : ∀ t : Nat, va_T .int t 5 (fun j => .int (f j)) A s s.heap → W p l e R s m args below meth c H locs cells slots Q (F0 m (pc + 3) ls (.ref t :: rest))) : W p l e R s m args below meth c H locs cells slots Q (F0 m pc ls rest) := by
  obtain ⟨t, h1, h2⟩ := hZ
  exact va_gets hx hb h1 hS hown hlink (fun _ h9 => h9) hdg (kk t h2)
theorem xs_getN {n own host : String} {f : Nat → Int32} {index : Nat} (hx : p.tables.exec = Jvm.exec) (hb : c.code = cc) (hZ : xArr n f A s s.heap) (hS : va_S A s.heap H locs) (hown : s.vm.findClass own = some m.cls) (hlink : (Cond.fieldLinkNest own index "StandIns" n "[I" host).before args s = true) (hdg : decode cc pc = .ok (.getstatic index, 3))
    (kk : ∀ t : Nat, va_T .int t 5 (fun j => .int (f j)) A s s.heap → W p l e R s m args below meth c H locs cells slots Q (F0 m (pc + 3) ls (.ref t :: rest))) : W p l e R s m args below meth c H locs cells slots Q (F0 m pc ls rest) := by
  obtain ⟨t, h1, h2⟩ := hZ
  exact va_getsN hx hb h1 hS hown hlink (fun _ h9 => h9) hdg (kk t h2)
theorem xs_ti {f : Nat → Int32} {t : Nat} (hx : p.tables.exec = Jvm.exec) (hb : c.code = cc) (hT : va_T .int t 5 (fun j => .int (f j)) A s s.heap) (hS : va_S A s.heap H locs) {i : Int32} (j : Nat) (hi : i = nI j) (hj : j < 5) (hdg : decode cc pc = .ok (.iaload, 1))
    (kk : W p l e R s m args below meth c H locs cells slots Q (F0 m (pc + 1) ls (.int (f j) :: rest))) : W p l e R s m args below meth c H locs cells slots Q (F0 m pc ls (.int i :: .ref t :: rest)) := by
  subst hi
  exact va_ti hx hb hT hS (vp_in_nI hj (by decide)) (v := .int (f j)) (by rw [nI_clamp (by omega)]) hdg kk
/-- a new array is of the class that we know -/
theorem xi_new (hx : p.tables.exec = Jvm.exec) (hb : c.code = cc) (harr : (Cond.arrayClass .int).before args s = true) (hK : va_K K.1 vwCl (kt K) s) (hP : va_P K.1 vwCl ws H) (hD : va_D A ws) (hS : va_S A s.heap H locs) (hA : ∀ q : Nat, s.heap.size ≤ q → A q) {n : Int32} (N : Nat) (hn : n = nI N) (hN : N < 65536) (hcells : cells + 1 ≤ R.cells) (hslots : slots + N ≤ R.slots) (hdg : decode cc pc = .ok (.newarray .int, 2))
    (kk : ∀ (q : Nat) (H1 : Heap), va_P K.1 vwCl (ws ++ [(q, aI K N (fun _ => 0))]) H1 → va_D A (ws ++ [(q, aI K N (fun _ => 0))]) → va_S A s.heap H1 locs → W p l e R s m args below meth c H1 locs (cells + 1) (slots + N) Q (F0 m (pc + 2) ls (.ref q :: rest))) : W p l e R s m args below meth c H locs cells slots Q (F0 m pc ls (.int n :: rest)) := by
  subst hn
  refine va_newa (atype := .int) (ty := .int) hx hb harr rfl hK hP hD hS hA (a0 := (N, .inl (fun _ => 0))) (N' := N) (fun cA => by rw [vp_cell_i]; rfl) (nI_pos (by omega)) (nI_clamp (by omega)) (by show N * 4 ≤ _; omega) hcells hslots hdg (fun q cA H1 hK1 hP1 hD1 hS1 => ?_)
  have e1 : s.vm.findClass ("[" ++ FieldType.int.toString) = some cA := (hK1.2 5 (cA, .int) rfl).2
  have e2 : s.vm.findClass ("[" ++ FieldType.int.toString) = some (K.2 0) := (hK.2 0 (K.2 0, .int) rfl).2
  obtain rfl : cA = K.2 0 := Option.some.inj (e1.symm.trans e2)
  exact kk q H1 hP1 hD1 hS1
theorem xq_new {own : String} {index : Nat} (hx : p.tables.exec = Jvm.exec) (hb : c.code = cc) (hown : s.vm.findClass own = some m.cls) (hclink : (Cond.classLink own index "StandIns$House").before args s = true) (hover : va_AO "StandIns$House" s) (hK : va_K K.1 vwCl (kt K) s) (hP : va_P K.1 vwCl ws H) (hD : va_D A ws) (hS : va_S A s.heap H locs) (hA : ∀ q : Nat, s.heap.size ≤ q → A q) {n : Int32} (N : Nat) (hn : n = nI N) (hN : N < 65536) (hcells : cells + 1 ≤ R.cells) (hslots : slots + N ≤ R.slots) (hdg : decode cc pc = .ok (.anewarray index, 3))
    (kk : ∀ (q : Nat) (H1 : Heap), va_P K.1 vwCl (ws ++ [(q, aQ K N (fun _ => none))]) H1 → va_D A (ws ++ [(q, aQ K N (fun _ => none))]) → va_S A s.heap H1 locs → W p l e R s m args below meth c H1 locs (cells + 1) (slots + N) Q (F0 m (pc + 3) ls (.ref q :: rest))) : W p l e R s m args below meth c H locs cells slots Q (F0 m pc ls (.int n :: rest)) := by
  subst hn
  refine va_newq hx hb hown hclink hover hK hP hD hS hA (N' := N) (nI_pos (by omega)) (nI_clamp (by omega)) (by omega) hcells hslots hdg (fun q cA H1 hK1 hP1 hD1 hS1 => ?_)
  obtain ⟨kA, comp, -, -, -, e1⟩ := (hK1.2 5 (cA, .object "StandIns$House") rfl).2
  obtain ⟨kA2, comp2, -, -, -, e2⟩ := (hK.2 3 (K.2 3, .object "StandIns$House") rfl).2
  obtain rfl : cA = K.2 3 := Option.some.inj (e1.symm.trans e2)
  exact kk q H1 hP1 hD1 hS1
theorem xq_st (hx : p.tables.exec = Jvm.exec) (hb : c.code = cc) (hK : va_K K.1 vwCl (kt K) s) (hP : va_P K.1 vwCl ws H) (hD : va_D A ws) (hS : va_S A H0 H locs) (q0 qk : Nat) {n v : Nat} {vs : List Value} {f : Nat → Option Nat} (ha : ws[q0]? = some (a, aQ K n f)) (hv : ws[qk]? = some (v, .inr (2, vs))) {i : Int32} (j : Nat) (hi : i = nI j) (hj : j < n) (hn : n < 2 ^ 31) (wn : va_W) (hwn : ws.set q0 (a, aQ K n (va_up f j (some v))) = wn) (hdg : decode cc pc = .ok (.aastore, 1))
    (kk : ∀ (H1 : Heap) (locs1 : List Loc), va_P K.1 vwCl wn H1 → va_D A wn → va_S A H0 H1 locs1 → W p l e R s m args below meth c H1 locs1 cells slots Q (F0 m (pc + 1) ls rest)) : W p l e R s m args below meth c H locs cells slots Q (F0 m pc ls (.ref v :: .int i :: .ref a :: rest)) := by
  subst hi
  subst hwn
  refine va_astq hx hb hK hP hD hS q0 3 qk 2 ha (r := (RX2, TX2, 17)) rfl hv rfl (vp_in_nI hj hn) hdg (fun H1 locs1 h1 h2 h3 => ?_)
  rw [nI_clamp (Nat.lt_trans hj hn)] at h1 h2
  exact kk H1 locs1 h1 h2 h3
theorem xq_ld (hx : p.tables.exec = Jvm.exec) (hb : c.code = cc) (hK : va_K K.1 vwCl (kt K) s) (hP : va_P K.1 vwCl ws H) (q0 : Nat) {n : Nat} {f : Nat → Option Nat} (ha : ws[q0]? = some (a, aQ K n f)) {i : Int32} (j : Nat) (hi : i = nI j) (hj : j < n) (hn : n < 2 ^ 31) {v : Nat} (hv : f j = some v) (hdg : decode cc pc = .ok (.aaload, 1))
    (kk : W p l e R s m args below meth c H locs cells slots Q (F0 m (pc + 1) ls (.ref v :: rest))) : W p l e R s m args below meth c H locs cells slots Q (F0 m pc ls (.int i :: .ref a :: rest)) := by
  subst hi
  refine va_aldq hx hb hK hP q0 3 ha (C := "StandIns$House") rfl (vp_in_nI hj hn) hdg ?_
  rw [nI_clamp (Nat.lt_trans hj hn), hv]
  exact kk
/-- a place of an array of references said otherwise -/
theorem P_extQ {D : va_G} {cl : List vw_C} {ws : va_W} {H : Heap} (h : va_P D cl ws H) (q0 : Nat) {a : Nat} {cA : ClassId} {n : Nat} {f g : Nat → Option Nat} (ha : ws[q0]? = some (a, .inl (cA, n, .inr (.inr (.inr (.inr f)))))) (hfg : ∀ j, j < n → f j = g j) : va_P D cl (ws.set q0 (a, .inl (cA, n, .inr (.inr (.inr (.inr g)))))) H := by
  intro k q hk
  have hl : q0 < ws.length := (List.getElem?_eq_some_iff.mp ha).1
  by_cases hkq : k = q0
  · subst hkq
    rw [List.getElem?_set_self hl] at hk
    cases hk
    have h1 := h k _ ha
    show H[a]? = some (vp_cell cA (n, .inr (.inr (.inr (.inr g)))))
    have e : vp_cell cA (n, .inr (.inr (.inr (.inr f)))) = vp_cell cA (n, .inr (.inr (.inr (.inr g)))) := by
      rw [vp_cell_q, vp_cell_q]
      unfold arrV
      congr 1
      apply Array.ext
      · simp
      · intro i h1 h2
        simp at h1
        simp [hfg i h1]
    rw [← e]
    exact h1
  · rw [List.getElem?_set_ne (Ne.symm hkq)] at hk
    exact h k q hk
theorem xz_new (hx : p.tables.exec = Jvm.exec) (hb : c.code = cc) (harr : (Cond.arrayClass .boolean).before args s = true) (hK : va_K K.1 vwCl (kt K) s) (hP : va_P K.1 vwCl ws H) (hD : va_D A ws) (hS : va_S A s.heap H locs) (hA : ∀ q : Nat, s.heap.size ≤ q → A q) {n : Int32} (N : Nat) (hn : n = nI N) (hN : N < 65536) (hcells : cells + 1 ≤ R.cells) (hslots : slots + N ≤ R.slots) (hdg : decode cc pc = .ok (.newarray .boolean, 2))
    (kk : ∀ (q : Nat) (H1 : Heap), va_P K.1 vwCl (ws ++ [(q, aZ K N (fun _ => 0))]) H1 → va_D A (ws ++ [(q, aZ K N (fun _ => 0))]) → va_S A s.heap H1 locs → W p l e R s m args below meth c H1 locs (cells + 1) (slots + N) Q (F0 m (pc + 2) ls (.ref q :: rest))) : W p l e R s m args below meth c H locs cells slots Q (F0 m pc ls (.int n :: rest)) := by
  subst hn
  refine va_newa (atype := .boolean) (ty := .boolean) hx hb harr rfl hK hP hD hS hA (a0 := (N, .inl (fun _ => 0))) (N' := N) (fun cA => by rw [vp_cell_i]; rfl) (nI_pos (by omega)) (nI_clamp (by omega)) (by show N * 1 ≤ _; omega) hcells hslots hdg (fun q cA H1 hK1 hP1 hD1 hS1 => ?_)
  have e1 : s.vm.findClass ("[" ++ FieldType.boolean.toString) = some cA := (hK1.2 5 (cA, .boolean) rfl).2
  have e2 : s.vm.findClass ("[" ++ FieldType.boolean.toString) = some (K.2 1) := (hK.2 1 (K.2 1, .boolean) rfl).2
  obtain rfl : cA = K.2 1 := Option.some.inj (e1.symm.trans e2)
  exact kk q H1 hP1 hD1 hS1
theorem xc_new (hx : p.tables.exec = Jvm.exec) (hb : c.code = cc) (harr : (Cond.arrayClass .char).before args s = true) (hK : va_K K.1 vwCl (kt K) s) (hP : va_P K.1 vwCl ws H) (hD : va_D A ws) (hS : va_S A s.heap H locs) (hA : ∀ q : Nat, s.heap.size ≤ q → A q) {n : Int32} (N : Nat) (hn : n = nI N) (hN : N < 65536) (hcells : cells + 1 ≤ R.cells) (hslots : slots + N ≤ R.slots) (hdg : decode cc pc = .ok (.newarray .char, 2))
    (kk : ∀ (q : Nat) (H1 : Heap), va_P K.1 vwCl (ws ++ [(q, aC K N (fun _ => 0))]) H1 → va_D A (ws ++ [(q, aC K N (fun _ => 0))]) → va_S A s.heap H1 locs → W p l e R s m args below meth c H1 locs (cells + 1) (slots + N) Q (F0 m (pc + 2) ls (.ref q :: rest))) : W p l e R s m args below meth c H locs cells slots Q (F0 m pc ls (.int n :: rest)) := by
  subst hn
  refine va_newa (atype := .char) (ty := .char) hx hb harr rfl hK hP hD hS hA (a0 := (N, .inl (fun _ => 0))) (N' := N) (fun cA => by rw [vp_cell_i]; rfl) (nI_pos (by omega)) (nI_clamp (by omega)) (by show N * 2 ≤ _; omega) hcells hslots hdg (fun q cA H1 hK1 hP1 hD1 hS1 => ?_)
  have e1 : s.vm.findClass ("[" ++ FieldType.char.toString) = some cA := (hK1.2 5 (cA, .char) rfl).2
  have e2 : s.vm.findClass ("[" ++ FieldType.char.toString) = some (K.2 2) := (hK.2 2 (K.2 2, .char) rfl).2
  obtain rfl : cA = K.2 2 := Option.some.inj (e1.symm.trans e2)
  exact kk q H1 hP1 hD1 hS1
end XS

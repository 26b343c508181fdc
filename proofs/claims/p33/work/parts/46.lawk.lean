/-! the law's own methods: starts and calls; a call that cannot throw is a plain one -/
abbrev xNo : String → State → State → Prop := vx_X (S := Unit) (fun _ => False) (fun _ _ _ => True) (fun _ => False)
section XLW
variable {p : Program} {l : Launch} {e : Env} {R : Room} {s : State} {m : MethodId} {args : Array Value} {below : List Frame} {meth : Method} {c : Code} {H : Heap} {locs : List Loc} {cells slots : Nat} {Q : State → Prop}
variable {cc : ByteArray} {pc : Nat} {ls : Array Slot} {rest : List Value} {K : KX} {A : Nat → Prop} {a : Nat} {ws : va_W} {H0 : Heap}
theorem xl_start {S9 : Type} {post : Int32 → S9 → Prop} {w1 : S9 → va_W} {y : MethodName} {ws9 ws' : List Cond} {rm : Room} {maxL mc ms sz : Nat} {hh : List (Nat × Nat × Nat × Nat)} {av : List Value} {wk : va_W} (hy : plainName y.cls = true) (hw : ws9 = Cond.codeWith y cc maxL (some .int) hh :: ws') (hlen : (lg_sl av).length ≤ maxL)
    (body : ∀ (p : Program) (e : Env) (s : State) (m : MethodId) (below : List Frame) (meth : Method) (c : Code) (H : Heap) (locs : List Loc) (ls : Array Slot) (A : Nat → Prop) (av9 : Array Value) (Q9 : State → Prop), p.tables.exec = Jvm.exec → c.code = cc → meth.locks = false → c.maxLocals = maxL → (∀ w ∈ ws9, w.before av9 s = true) → s.vm.findClass y.cls = some m.cls → va_K K.1 vwCl (kt K) s → va_P K.1 vwCl wk H → va_D A wk → va_S A s.heap H locs → (∀ q : Nat, s.heap.size ≤ q → A q) → A = va_A wk sz → xSt A s s.heap → c.exceptionTable.toList = tableOf hh →
      (∀ (H1 : Heap) (locs1 : List Loc) (cells slots pc : Nat) (ls : Array Slot) (v : Int32) (u : S9), va_P K.1 vwCl (w1 u) H1 → va_D A (w1 u) → va_S A s.heap H1 locs1 → cells ≤ mc → slots ≤ ms → post v u → decode cc pc = .ok (.ireturn, 1) → W p l e rm s m av9 below meth c H1 locs1 cells slots Q9 (F0 m pc ls [.int v])) → lv_has ls maxL (lv_args 0 av) →
      W p l e rm s m av9 below meth c H locs 0 0 Q9 (F0 m 0 ls [])) : vx_Met l y ws9 rm (va_Pc av (xPreS K wk sz)) (va_Qi post (fun u t => xPost K (va_A wk sz) (w1 u) t) (va_A wk sz)) xNo mc ms (va_A wk sz) := by
  refine vx_ofWH (cc := cc) (maxL := maxL) (ret := (some .int)) (hh := hh) hy hw ?_
  intro p e s m args below meth c s₁ B hml hv
  obtain ⟨rfl, ⟨hsz, hP, hK, hD⟩, hZ⟩ := hv
  rw [lg_entry_eq]
  have hcw := atoms_spec (ws := ws9) B.pre _ (by rw [hw]; exact List.mem_cons_self)
  exact body p e s m below meth c _ _ _ _ _ _ B.exec B.bytes B.notSynchronized hml (atoms_spec (ws := ws9) B.pre) (findClass_of_methodNamed B.named) hK hP hD.self va_S.rf (fun q h => Or.inr (by omega)) rfl hZ (vx_table (x := y) B hcw)
    (fun H1 locs1 cells slots pc ls v u hP hD hS hc hs hq hdg => vx_ret (W.widen hc hs (W.iret B.exec B.bytes B.returns (fun t ht hW => ⟨⟨v, u, rfl, hq, by rw [ht]; exact hP, va_K.moved hW.alike hK, hD⟩, hS.F ht⟩) hS.2.2 hdg B.notSynchronized)))
    (lv_entry av hlen)
theorem xl_V {S9 SX : Type} {post : Int32 → S9 → Prop} {px : String → SX → Prop} {w1 : S9 → va_W} {wx : SX → va_W} {y : MethodName} {bytes : ByteArray} {maxL nL n index mc ms : Nat} {ret : Option FieldType} {ws9 Ts : List Cond} {rm : Room} {own C : String} {b : Nat} {As st0 : List Value} {wc wr : va_W}
    (S : CallFix p m c cc nL s args Ts own) (hM : vx_Met l y ws9 rm (va_Pc (.ref b :: As) (xPreS K wc H.size)) (va_Qi post (fun u t => xPost K (va_A wc H.size) (w1 u) t) (va_A wc H.size)) (xXC K (va_A wc H.size) px wx) mc ms (va_A wc H.size)) (cw : CallW R s args own C index y bytes maxL ret ws9 rm mc ms n) (hK : va_K K.1 vwCl (kt K) s) (hP : va_P K.1 vwCl (wc ++ wr) H) (hD : va_D A (wc ++ wr)) (hS : va_S A s.heap H locs) (hZ : xSt A s s.heap) (hA : ∀ q : Nat, s.heap.size ≤ q → A q)
    (q0 ci : Nat) {q : vw_C} {fs : List Value} (hc : vwCl[ci]? = some q) (hqC : q.1 = C) (he : wc[q0]? = some (b, .inr (ci, fs))) (hn : As.length = n) (hsize : ls.size = nL) (hst : st0 = As.reverse ++ .ref b :: rest) (hW : (rest.map fun v => v.category).sum ≤ 8) (hce : cells + mc ≤ R.cells) (hsl : slots + ms ≤ R.slots) (hdg : decode cc pc = .ok (.invokevirtual index, 3))
    (kx : ∀ (E : String) (ce : Cell) (q9 : Addr) (u : SX) (H1 : Heap) (locs1 : List Loc), px E u → va_P K.1 vwCl (wx u ++ wr) H1 → va_D A (wx u ++ wr) → va_S A s.heap H1 locs1 → H1[q9]? = some ce → ce.vm = .none → s.vm.findClass E = some ce.cls → vx_W p l e R s m args below meth c H1 locs1 (cells + mc) (slots + ms) Q (F0 m pc ls rest) q9)
    (kk : ∀ (r : Int32) (u : S9) (H1 : Heap) (locs1 : List Loc), post r u → va_P K.1 vwCl (w1 u ++ wr) H1 → va_D A (w1 u ++ wr) → va_S A s.heap H1 locs1 → W p l e R s m args below meth c H1 locs1 (cells + mc) (slots + ms) Q (F0 m (pc + 3) ls (.int r :: rest))) : W p l e R s m args below meth c H locs cells slots Q (F0 m pc ls st0) := by
  subst hqC
  have hPc := (P_app hP).1
  have hDc := (D_app hD).1
  have hF := A_of hDc hA hS.1
  refine vx_calli (a := (Value.ref b :: As).toArray) (rest := rest) (vx_runV (g := F0 m pc ls st0) S hM cw ⟨xPreS_blind K wc _ _, va_recv hK hPc hc he, fun U hU hW => ⟨rfl, ⟨by rw [hU], by rw [hU]; exact hPc, va_K.moved hW.alike hK, hDc.weaken (fun _ _ _ _ => trivial)⟩, hZ.call hS hF hU hW⟩⟩ rfl hn hsize hst (lv_room hW) hdg ⟨hce, hsl⟩) hS (fun q _ h => hF q h) hF (fun q _ h => hF q h) (fun E ce q9 u t H1 locs1 ht hvm _ hB hz1 hk1 hS1 hce hcv hcl => ?_) (fun r u t H1 locs1 ht hvm hw hB hz1 hk1 hS1 => ?_)
  · obtain ⟨hpx, hP1, hK1, hD1⟩ := hB
    rw [ht] at hP1
    obtain ⟨hP2, hD2⟩ := back_app hP hD hF hk1 hP1 hD1
    exact kx E ce q9 u H1 locs1 hpx hP2 hD2 hS1 hce hcv hcl
  · obtain ⟨hP1, hK1, hD1⟩ := hB
    rw [ht] at hP1
    obtain ⟨hP2, hD2⟩ := back_app hP hD hF hk1 hP1 hD1
    exact kk r u H1 locs1 hw hP2 hD2 hS1
theorem xl_c1 {E : String} {ce : Cell} {q : Addr} {rest st : List Value} {own : String} {k1 k2 k3 k4 : Nat} {suf : List (Nat × Nat × Nat × Nat)} (hown : s.vm.findClass own = some m.cls) (htab : c.exceptionTable.toList = tableOf ((k1, k2, k3, k4) :: suf)) (hpc : covers ⟨k1, k2, k3, k4⟩ pc = true) (h0 : k4 ≠ 0) (hE : E ∈ [exI, exA, exS]) (hZ : xSt A s s.heap)
    (hlink : (Cond.classLink own k4 E).before args s = true) (hcell : H[q]? = some ce) (hv : ce.vm = .none) (hcl : s.vm.findClass E = some ce.cls)
    (kk : W p l e R s m args below meth c H locs cells slots Q (F0 m k3 ls [.ref q])) : vx_W p l e R s m args below meth c H locs cells slots Q (F0 m pc ls rest) q :=
  vx_catch hown [] ⟨k1, k2, k3, k4⟩ (tableOf suf) htab (fun z hz => by cases hz) hpc h0 hlink (va_Nw.use rfl (hZ.2.2.2.2.2.2.1 E hE).1) hcell hv hcl kk
theorem xl_Sp {S9 : Type} {post : Int32 → S9 → Prop} {w1 : S9 → va_W} {y : MethodName} {bytes : ByteArray} {maxL nL n index mc ms : Nat} {hh : List (Nat × Nat × Nat × Nat)} {ret : Option FieldType} {ws9 Ts : List Cond} {rm : Room} {own : String} {As st0 : List Value} {wc wr : va_W}
    (S : CallFix p m c cc nL s args Ts own) (hM : vx_Met l y ws9 rm (va_Pc As (xPreS K wc H.size)) (va_Qi post (fun u t => xPost K (va_A wc H.size) (w1 u) t) (va_A wc H.size)) xNo mc ms (va_A wc H.size)) (cw : vx_CSW R s args own index y bytes maxL ret hh ws9 rm mc ms n) (hK : va_K K.1 vwCl (kt K) s) (hP : va_P K.1 vwCl ws H) (hD : va_D A ws) (hS : va_S A s.heap H locs) (hZ : xSt A s s.heap) (hA : ∀ q : Nat, s.heap.size ≤ q → A q)
    (hperm : ws.Perm (wc ++ wr)) (wn : S9 → va_W) (hp : ∀ u, (w1 u ++ wr).Perm (wn u)) (hn : As.length = n) (hsize : ls.size = nL) (hst : st0 = As.reverse ++ rest) (hW : (rest.map fun v => v.category).sum ≤ 8) (hce : cells + mc ≤ R.cells) (hsl : slots + ms ≤ R.slots) (hdg : decode cc pc = .ok (.invokestatic index, 3))
    (kk : ∀ (r : Int32) (u : S9) (H1 : Heap) (locs1 : List Loc), post r u → va_P K.1 vwCl (wn u) H1 → va_D A (wn u) → va_S A s.heap H1 locs1 → W p l e R s m args below meth c H1 locs1 (cells + mc) (slots + ms) Q (F0 m (pc + 3) ls (.int r :: rest))) : W p l e R s m args below meth c H locs cells slots Q (F0 m pc ls st0) := by
  have hP9 := P_perm hperm hP
  have hD9 := D_perm hperm hD
  have hPc := (P_app hP9).1
  have hDc := (D_app hD9).1
  have hF := A_of hDc hA hS.1
  refine vx_calli (a := As.toArray) (rest := rest) (vx_runSX (g := F0 m pc ls st0) S hM cw ⟨xPreS_blind K wc _ _, fun U hU hW => ⟨rfl, ⟨by rw [hU], by rw [hU]; exact hPc, va_K.moved hW.alike hK, hDc.weaken (fun _ _ _ _ => trivial)⟩, hZ.call hS hF hU hW⟩⟩ rfl hn hsize hst (lv_room hW) hdg ⟨hce, hsl⟩) hS (fun q _ h => hF q h) hF (fun q _ h => h.elim) (fun E ce q9 u t H1 locs1 ht hvm hpu _ _ _ _ _ _ _ => hpu.elim) (fun r u t H1 locs1 ht hvm hw hB hz1 hk1 hS1 => ?_)
  obtain ⟨hP1, hK1, hD1⟩ := hB
  rw [ht] at hP1
  obtain ⟨hP2, hD2⟩ := back_app hP9 hD9 hF hk1 hP1 hD1
  exact kk r u H1 locs1 hw (P_perm (hp u) hP2) (D_perm (hp u) hD2) hS1
theorem ps_Si {S9 : Type} {post : Int32 → S9 → Prop} {w1 : S9 → va_W} {y : MethodName} {bytes : ByteArray} {maxL nL n index mc ms : Nat} {ret : Option FieldType} {ws9 Ts : List Cond} {rm : Room} {own : String} {As st0 : List Value} {wc wr : va_W}
    (S : CallFix p m c cc nL s args Ts own) (hM : Met l y ws9 rm (va_Pc (As) (xPreS K wc H.size)) (va_Qi post (fun u t => xPost K (va_A wc H.size) (w1 u) t) (va_A wc H.size)) mc ms (va_A wc H.size)) (cw : CallB R s args own index y bytes maxL ret ws9 rm mc ms n ∧ (Cond.static y).before args s = true) (hK : va_K K.1 vwCl (kt K) s) (hP : va_P K.1 vwCl ws H) (hD : va_D A ws) (hS : va_S A s.heap H locs) (hZ : xSt A s s.heap) (hA : ∀ q : Nat, s.heap.size ≤ q → A q)
    (hperm : ws.Perm (wc ++ wr)) (wn : S9 → va_W) (hp : ∀ u, (w1 u ++ wr).Perm (wn u)) (hn : As.length = n) (hsize : ls.size = nL) (hst : st0 = As.reverse ++ rest) (hW : (rest.map fun v => v.category).sum ≤ 8) (hce : cells + mc ≤ R.cells) (hsl : slots + ms ≤ R.slots) (hdg : decode cc pc = .ok (.invokestatic index, 3))
    (kk : ∀ (r : Int32) (u : S9) (H1 : Heap) (locs1 : List Loc), post r u → va_P K.1 vwCl (wn u) H1 → va_D A (wn u) → va_S A s.heap H1 locs1 → W p l e R s m args below meth c H1 locs1 (cells + mc) (slots + ms) Q (F0 m (pc + 3) ls (.int r :: rest))) : W p l e R s m args below meth c H locs cells slots Q (F0 m pc ls st0) := by
  have hP9 := P_perm hperm hP
  have hD9 := D_perm hperm hD
  have hPc := (P_app hP9).1
  have hDc := (D_app hD9).1
  have hF := A_of hDc hA hS.1
  refine va_calli (a := As.toArray) (rest := rest) (va_runS S hM cw ⟨xPreS_blind K wc _ _, fun U hU hW => ⟨rfl, ⟨by rw [hU], by rw [hU]; exact hPc, va_K.moved hW.alike hK, hDc.weaken (fun _ _ _ _ => trivial)⟩, hZ.call hS hF hU hW⟩⟩ rfl hn hsize hst (lv_room hW) hdg ⟨hce, hsl⟩) hS (fun q _ h => hF q h) hF (fun r u t H1 locs1 ht hvm hw hB hz1 hk1 hS1 => ?_)
  obtain ⟨hP1, hK1, hD1⟩ := hB
  rw [ht] at hP1
  obtain ⟨hP2, hD2⟩ := back_app hP9 hD9 hF hk1 hP1 hD1
  exact kk r u H1 locs1 hw (P_perm (hp u) hP2) (D_perm (hp u) hD2) hS1
def xPreB (K : KX) (b9 LL : Nat) (xs : Nat → Int32) (ws : va_W) (sz : Nat) (U : State) : Prop := xPreS K ws sz U ∧ va_X b9 LL xs U U.heap ∧ b9 < sz ∧ ¬ va_A ws sz b9
theorem xPreB_blind (K : KX) (b9 LL : Nat) (xs : Nat → Int32) (ws : va_W) (sz : Nat) (av : List Value) : FrameBlind (va_Pc av (xPreB K b9 LL xs ws sz)) := by
  intro a U g mk h
  have h1 := xPreS_blind K ws sz av a U g mk ⟨h.1, h.2.1⟩
  exact ⟨h1.1, h1.2, va_X.moved (u := U) (U := U.calling g mk a) (Vm.Alike.refl U.vm) h.2.2.1, h.2.2.2⟩
theorem pb_Si {S9 : Type} {post : Int32 → S9 → Prop} {w1 : S9 → va_W} {y : MethodName} {bytes : ByteArray} {maxL nL n index mc ms : Nat} {ret : Option FieldType} {ws9 Ts : List Cond} {rm : Room} {own : String} {b9 LL : Nat} {xs : Nat → Int32} {As st0 : List Value} {wc wr : va_W}
    (S : CallFix p m c cc nL s args Ts own) (hM : Met l y ws9 rm (va_Pc (As) (xPreB K b9 LL xs wc H.size)) (va_Qi post (fun u t => xPost K (va_A wc H.size) (w1 u) t) (va_A wc H.size)) mc ms (va_A wc H.size)) (cw : CallB R s args own index y bytes maxL ret ws9 rm mc ms n ∧ (Cond.static y).before args s = true) (hK : va_K K.1 vwCl (kt K) s) (hP : va_P K.1 vwCl ws H) (hD : va_D A ws) (hS : va_S A s.heap H locs) (hZ : xSt A s s.heap) (hA : ∀ q : Nat, s.heap.size ≤ q → A q)
    (hX : va_X b9 LL xs s s.heap) (hbl : b9 < s.heap.size) (hbA : ¬ A b9) (hperm : ws.Perm (wc ++ wr)) (wn : S9 → va_W) (hp : ∀ u, (w1 u ++ wr).Perm (wn u)) (hn : As.length = n) (hsize : ls.size = nL) (hst : st0 = As.reverse ++ rest) (hW : (rest.map fun v => v.category).sum ≤ 8) (hce : cells + mc ≤ R.cells) (hsl : slots + ms ≤ R.slots) (hdg : decode cc pc = .ok (.invokestatic index, 3))
    (kk : ∀ (r : Int32) (u : S9) (H1 : Heap) (locs1 : List Loc), post r u → va_P K.1 vwCl (wn u) H1 → va_D A (wn u) → va_S A s.heap H1 locs1 → W p l e R s m args below meth c H1 locs1 (cells + mc) (slots + ms) Q (F0 m (pc + 3) ls (.int r :: rest))) : W p l e R s m args below meth c H locs cells slots Q (F0 m pc ls st0) := by
  have hP9 := P_perm hperm hP
  have hD9 := D_perm hperm hD
  have hPc := (P_app hP9).1
  have hDc := (D_app hD9).1
  have hF := A_of hDc hA hS.1
  refine va_calli (a := As.toArray) (rest := rest) (va_runS S hM cw ⟨xPreB_blind K b9 LL xs wc _ _, fun U hU hW => ⟨rfl, ⟨⟨by rw [hU], by rw [hU]; exact hPc, va_K.moved hW.alike hK, hDc.weaken (fun _ _ _ _ => trivial)⟩, hZ.call hS hF hU hW⟩, (by rw [hU]; exact (va_X.moved hW.alike hX).kept (hS.2.1 b9 hbl hbA)), Nat.lt_of_lt_of_le hbl hS.1, fun z => hbA (hF b9 z)⟩⟩ rfl hn hsize hst (lv_room hW) hdg ⟨hce, hsl⟩) hS (fun q _ h => hF q h) hF (fun r u t H1 locs1 ht hvm hw hB hz1 hk1 hS1 => ?_)
  obtain ⟨hP1, hK1, hD1⟩ := hB
  rw [ht] at hP1
  obtain ⟨hP2, hD2⟩ := back_app hP9 hD9 hF hk1 hP1 hD1
  exact kk r u H1 locs1 hw (P_perm (hp u) hP2) (D_perm (hp u) hD2) hS1
theorem xb_starti {S9 : Type} {post : Int32 → S9 → Prop} {w1 : S9 → va_W} {y : MethodName} {ws9 ws' : List Cond} {rm : Room} {maxL mc ms sz : Nat} {b9 LL : Nat} {xs : Nat → Int32} {av : List Value} {wk : va_W} (hy : plainName y.cls = true) (hw : ws9 = Cond.code y cc maxL (some .int) :: ws') (hlen : (lg_sl av).length ≤ maxL)
    (body : ∀ (p : Program) (e : Env) (s : State) (m : MethodId) (below : List Frame) (meth : Method) (c : Code) (H : Heap) (locs : List Loc) (ls : Array Slot) (A : Nat → Prop) (av9 : Array Value) (Q9 : State → Prop), p.tables.exec = Jvm.exec → c.code = cc → meth.locks = false → c.maxLocals = maxL → meth.name = y.name → (∀ w ∈ ws9, w.before av9 s = true) → s.vm.findClass y.cls = some m.cls → va_K K.1 vwCl (kt K) s → va_P K.1 vwCl wk H → va_D A wk → va_S A s.heap H locs → (∀ q : Nat, s.heap.size ≤ q → A q) → A = va_A wk sz → xSt A s s.heap → va_X b9 LL xs s s.heap → b9 < s.heap.size → ¬ A b9 →
      (∀ (H1 : Heap) (locs1 : List Loc) (cells slots pc : Nat) (ls : Array Slot) (v : Int32) (u : S9), va_P K.1 vwCl (w1 u) H1 → va_D A (w1 u) → va_S A s.heap H1 locs1 → cells ≤ mc → slots ≤ ms → post v u → decode cc pc = .ok (.ireturn, 1) → W p l e rm s m av9 below meth c H1 locs1 cells slots Q9 (F0 m pc ls [.int v])) → lv_has ls maxL (lv_args 0 av) →
      W p l e rm s m av9 below meth c H locs 0 0 Q9 (F0 m 0 ls [])) : Met l y ws9 rm (va_Pc av (xPreB K b9 LL xs wk sz)) (va_Qi post (fun u t => xPost K (va_A wk sz) (w1 u) t) (va_A wk sz)) mc ms (va_A wk sz) := by
  refine Met.ofW (cc := cc) (maxL := maxL) (ret := (some .int)) hy hw ?_
  intro p e s m args below meth c s₁ B hml hv
  obtain ⟨rfl, ⟨⟨hsz, hP, hK, hD⟩, hZ⟩, hX, hbl, hbA⟩ := hv
  rw [lg_entry_eq]
  exact body p e s m below meth c _ _ _ _ _ _ B.exec B.bytes B.notSynchronized hml (name_of_methodNamed B.named B.method).1 (atoms_spec (ws := ws9) B.pre) (findClass_of_methodNamed B.named) hK hP hD.self va_S.rf (fun q h => Or.inr (by omega)) rfl hZ hX (by omega) hbA (fun H1 locs1 cells slots pc ls v u hP hD hS hc hs hq hdg => W.widen hc hs (W.iret B.exec B.bytes B.returns (fun t ht hW => ⟨⟨v, u, rfl, hq, by rw [ht]; exact hP, va_K.moved hW.alike hK, hD⟩, hS.F ht⟩) hS.2.2 hdg B.notSynchronized)) (lv_entry av hlen)
/-- a number of the script, or one that stands for it -/
theorem xc_blind (b9 LL : Nat) (xs : Nat → Int32) (av : List Value) : FrameBlind (va_Pc av (fun U => va_X b9 LL xs U U.heap)) := by
  intro a U g mk h
  exact ⟨h.1, va_X.moved (u := U) (U := U.calling g mk a) (Vm.Alike.refl U.vm) h.2⟩
theorem xc_S {y : MethodName} {bytes : ByteArray} {maxL nL n index : Nat} {ret : Option FieldType} {ws9 Ts : List Cond} {rm : Room} {own : String} {As st0 : List Value} {b9 LL : Nat} {xs : Nat → Int32}
    (S : CallFix p m c cc nL s args Ts own) (hM : Met l y ws9 rm (va_Pc As (fun U => va_X b9 LL xs U U.heap)) (vp_Si (fun _ => True)) 0 0 (fun _ => False)) (cw : CallB R s args own index y bytes maxL ret ws9 rm 0 0 n ∧ (Cond.static y).before args s = true) (hX : va_X b9 LL xs s s.heap) (hbl : b9 < s.heap.size) (hbA : ¬ A b9) (hS : va_S A s.heap H locs) (hn : As.length = n) (hsize : ls.size = nL) (hst : st0 = As.reverse ++ rest) (hW : (rest.map fun v => v.category).sum ≤ 8) (hce : cells ≤ R.cells) (hsl : slots ≤ R.slots) (hdg : decode cc pc = .ok (.invokestatic index, 3))
    (kk : ∀ r : Int32, W p l e R s m args below meth c H locs cells slots Q (F0 m (pc + 3) ls (.int r :: rest))) : W p l e R s m args below meth c H locs cells slots Q (F0 m pc ls st0) := by
  refine vp_callSi (a := As.toArray) (rest := rest) (va_Run.run (va_runS S hM cw ⟨xc_blind b9 LL xs _, fun U hU hW => ⟨rfl, by show va_X b9 LL xs U U.heap; rw [hU]; exact (va_X.moved hW.alike hX).kept (hS.2.1 b9 hbl hbA)⟩⟩ rfl hn hsize hst (lv_room hW) hdg ⟨hce, hsl⟩)) (fun r _ => kk r)
end XLW
/-- a call that cannot throw is a plain one -/
theorem met_x {l : Launch} {y : MethodName} {ws : List Cond} {rm : Room} {Pc : Array Value → State → Prop} {S9 S0 SX : Type} {post : Int32 → S9 → Prop} {post0 : Int32 → S0 → Prop} {B : S9 → State → Prop} {B0 : S0 → State → Prop} {A1 A2 : Nat → Prop} {K : KX} {px : String → SX → Prop} {wx : SX → va_W} {mc ms : Nat} {free : Nat → Prop} (f : S9 → S0)
    (hM : vx_Met l y ws rm Pc (va_Qi post B A1) (xXC K A2 px wx) mc ms free) (hpx : ∀ E u, ¬ px E u) (h : ∀ v u, post v u → post0 v (f u)) (hB : ∀ u t, B u t → B0 (f u) t) : Met l y ws rm Pc (va_Qi post0 B0 A1) mc ms free := by
  intro p e ha hc hk s m args below hf happ hP hK
  obtain ⟨n, o, h1, h2, h3, h4⟩ := hM p e ha hc hk s m args below hf happ hP hK
  refine ⟨n, o, h1, h2, h3, ?_⟩
  rcases h4 with ⟨⟨⟨v, u, ho, hp, hb⟩, hF⟩, hL⟩ | ⟨q, ho, E, ce, L, ⟨u, -, ⟨hx, -⟩, -⟩, -⟩
  · exact ⟨⟨⟨v, f u, ho, h v u hp, hB u _ hb⟩, hF⟩, hL⟩
  · exact absurd hx (hpx E u)
theorem no_1 {k : Nat} {a : Prop} (h : k = 0) : ¬ (k = 1 ∧ a) := by
  rintro ⟨z, -⟩
  omega
theorem no_2 {k : Nat} {a b : Prop} (h : k = 0) : ¬ ((k = 1 ∧ a) ∨ (k = 2 ∧ b)) := by
  rintro (⟨z, -⟩ | ⟨z, -⟩) <;> omega
theorem is_ro {S : HV} {R r : Nat} (h : S 10 0 = nI R) (hR : R ≤ 6) (hr : r < R) : isRo S (nI r) := ⟨nI_pos' (by omega), by rw [h]; exact (nI_ltI (by omega) (by omega)).mpr hr⟩
theorem is_pl {S : HV} {P p : Nat} (h : S 11 0 = nI P) (hP : P ≤ 10) (hp : p < P) : isPl S (nI p) := ⟨nI_pos' (by omega), by rw [h]; exact (nI_ltI (by omega) (by omega)).mpr hp⟩
theorem kRole_0 {S : HV} {r w : Int32} (h : isRo S r) (hw : inR w 0 4) : kRole S r w = 0 := (if_neg (fun z => z h)).trans (if_neg (fun z => z hw))
theorem kPlayer_0 {S : HV} {p w : Int32} (h : isPl S p) (hw : inR w 0 5) : kPlayer S p w = 0 := (if_neg (fun z => z h)).trans (if_neg (fun z => z hw))
theorem kBoth_0 {S : HV} {p r w : Int32} (h : isPl S p) (h2 : isRo S r) (hw : inR w 0 2) : kBoth S p r w = 0 := (if_neg (fun z => z.elim (fun z => z h) (fun z => z h2))).trans (if_neg (fun z => z hw))
theorem kRank_0 {k : Nat} (h : k < 2 ^ 31) : kRank (nI k) = 0 := if_neg (nI_pos h)
theorem kWith_0 {S : HV} {p : Int32} (h : isPl S p) : kWith S p = 0 := if_pos h
theorem in_nI {a b c : Nat} (h : b ≤ a ∧ a ≤ c) (hc : c < 2 ^ 31) : inR (nI a) (nI b) (nI c) := ⟨(nI_leI (by omega) (by omega)).mpr h.1, (nI_leI (by omega) (by omega)).mpr h.2⟩
/-! what is so of all houses, between two turns -/
def LWI (S : HV) (Ss : Nat → HV) (cn nx B : Nat) : Prop := (∃ R P, INV S R P B) ∧ (∀ i, i < 14 → ∃ R P, INV (Ss i) R P B) ∧ cn ≤ 14 ∧ nx < 14
theorem LW_inv {S : HV} {Ss : Nat → HV} {cn nx B R P : Nat} (h : LWI S Ss cn nx B) (hR0 : S 10 0 = nI R) (hR : R ≤ 6) (hP0 : S 11 0 = nI P) (hP : P ≤ 10) : INV S R P B := by
  obtain ⟨⟨R', P', hI⟩, -⟩ := h
  obtain ⟨r1, r2, p1, p2, -⟩ := hI.1
  have e1 : R' = R := (nI_eq (by omega) (by omega)).mp (r1.symm.trans hR0)
  have e2 : P' = P := (nI_eq (by omega) (by omega)).mp (p1.symm.trans hP0)
  rw [← e1, ← e2]
  exact hI
theorem LW_z {S : HV} {Ss : Nat → HV} {cn nx B : Nat} (h : LWI S Ss cn nx B) : S 16 0 = 0 ∨ S 16 0 = 1 := by
  obtain ⟨⟨R', P', hI⟩, -⟩ := h
  exact hI.1.2.2.2.2
theorem LW_zs {S : HV} {Ss : Nat → HV} {cn nx B : Nat} (h : LWI S Ss cn nx B) : ∀ i, i < 14 → Ss i 16 0 = 0 ∨ Ss i 16 0 = 1 := fun i hi => by
  obtain ⟨R', P', hI⟩ := h.2.1 i hi
  exact hI.1.2.2.2.2
theorem LW_up {S : HV} {Ss : Nat → HV} {cn nx B B' : Nat} (h : LWI S Ss cn nx B) (hB : B ≤ B') : LWI S Ss cn nx B' := by
  obtain ⟨⟨R, P, hI⟩, h2, h3⟩ := h
  refine ⟨⟨R, P, INV_up hI hB⟩, fun i hi => ?_, h3⟩
  obtain ⟨R', P', hI'⟩ := h2 i hi
  exact ⟨R', P', INV_up hI' hB⟩
theorem LW_rem {S S' : HV} {Ss : Nat → HV} {cn nx B R P : Nat} (h : LWI S Ss cn nx B) (h' : INV S' R P (B + 10)) : LWI S' (va_up Ss nx S) (if cn < 14 then cn + 1 else cn) (if nx + 1 < 14 then nx + 1 else 0) (B + 10) := by
  have h1 := LW_up h (Nat.le_add_right B 10)
  refine ⟨⟨R, P, h'⟩, fun i hi => ?_, ?_, ?_⟩
  · unfold va_up
    split
    · exact h1.1
    · exact h1.2.1 i hi
  · have := h.2.2.1
    split <;> omega
  · split <;> omega
theorem LW_undo {S : HV} {Ss : Nat → HV} {cn nx B : Nat} (h : LWI S Ss cn nx B) (hc : ¬ cn = 0) : LWI (Ss (if 0 < nx then nx - 1 else 13)) Ss (cn - 1) (if 0 < nx then nx - 1 else 13) (B + 10) := by
  have h1 := LW_up h (Nat.le_add_right B 10)
  have h2 : (if 0 < nx then nx - 1 else 13) < 14 := by
    have := h.2.2.2
    split <;> omega
  exact ⟨h1.2.1 _ h2, h1.2.1, by have := h.2.2.1; omega, h2⟩

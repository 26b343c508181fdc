/-! the law's methods that catch: starts, calls -/
abbrev xNo : String → State → State → Prop := vx_X (S := Unit) (fun _ => False) (fun _ _ _ => True) (fun _ => False)
section XLW
variable {p : Program} {l : Launch} {e : Env} {R : Room} {s : State} {m : MethodId} {args : Array Value} {below : List Frame} {meth : Method} {c : Code} {H : Heap} {locs : List Loc} {cells slots : Nat} {Q : State → Prop}
variable {cc : ByteArray} {pc : Nat} {ls : Array Slot} {rest : List Value} {K : KX} {A : Nat → Prop} {a : Nat} {ws : va_W} {H0 : Heap}
theorem xl_start {S9 : Type} {post : Int32 → S9 → Prop} {w1 : S9 → va_W} {y : MethodName} {ws9 ws' : List Cond} {rm : Room} {maxL mc ms sz : Nat} {hh : List (Nat × Nat × Nat × Nat)} {av : List Value} {wk : va_W} (hy : plainName y.cls = true) (hw : ws9 = Cond.codeWith y cc maxL (some .int) hh :: ws') (hlen : (lg_sl av).length ≤ maxL)
    (body : ∀ (p : Program) (e : Env) (s : State) (m : MethodId) (below : List Frame) (meth : Method) (c : Code) (H : Heap) (locs : List Loc) (ls : Array Slot) (A : Nat → Prop) (av9 : Array Value) (Q9 : State → Prop), p.tables.exec = Jvm.exec → c.code = cc → meth.locks = false → c.maxLocals = maxL → (∀ w ∈ ws9, w.before av9 s = true) → s.vm.findClass y.cls = some m.cls → va_K K.1 vwCl (kt K) s → va_P K.1 vwCl wk H → va_D A wk → va_S A s.heap H locs → (∀ q : Nat, s.heap.size ≤ q → A q) → A = va_A wk sz → xSt A s s.heap → c.exceptionTable.toList = tableOf hh →
      (∀ (H1 : Heap) (locs1 : List Loc) (cells slots pc : Nat) (ls : Array Slot) (v : Int32) (u : S9), va_P K.1 vwCl (w1 u) H1 → va_D A (w1 u) → va_S A s.heap H1 locs1 → cells ≤ mc → slots ≤ ms → post v u → decode cc pc = .ok (.ireturn, 1) → W p l e rm s m av9 below meth c H1 locs1 cells slots Q9 (F0 m pc ls [.int v])) → lv_has ls maxL (lv_args 0 av) →
      W p l e rm s m av9 below meth c H locs 0 0 Q9 (F0 m 0 ls [])) : vx_Met l y ws9 rm (va_Pc av (xPreS K wk sz)) (va_Qi post (fun u t => xPost K (va_A wk sz) (w1 u) t) (va_A wk sz)) xNo mc ms (va_A wk sz) := by
  refine vx_ofWH (cc := cc) (maxL := maxL) (ret := (some .int)) (hh := hh) hy hw ?_
  intro p e s m args below meth c s₁ B hml hv
  obtain ⟨rfl, ⟨hsz, hP, hK, hD⟩, hZ⟩ := hv
  rw [lg_entry_eq]
  have hcw := atoms_spec (ws := ws9) B.pre _ (by rw [hw]; exact List.mem_cons_self)
  exact body p e s m below meth c _ _ _ _ _ _ B.exec B.bytes B.notSynchronized hml (atoms_spec (ws := ws9) B.pre) (findClass_of_methodNamed B.named) hK hP hD.self va_S.rf (fun q h => Or.inr (by omega)) rfl hZ (vx_table (x := y) B hcw)
    (fun H1 locs1 cells slots pc ls v u hP hD hS hc hs hq hdg => vx_ret (W.widen hc hs (W.iret B.exec B.bytes B.returns (fun t ht hW => ⟨⟨v, u, rfl, hq, by rw [ht]; exact hP, va_K.moved hW.alike hK, hD⟩, hS.F ht⟩) hS.2.2 hdg B.notSynchronized)))
    (lv_entry av hlen)
/-- a call of a method of the class, that may throw -/
theorem xl_V {S9 SX : Type} {post : Int32 → S9 → Prop} {px : String → SX → Prop} {w1 : S9 → va_W} {wx : SX → va_W} {y : MethodName} {bytes : ByteArray} {maxL nL n index mc ms : Nat} {ret : Option FieldType} {ws9 Ts : List Cond} {rm : Room} {own C : String} {b : Nat} {As st0 : List Value} {wc wr : va_W}
    (S : CallFix p m c cc nL s args Ts own) (hM : vx_Met l y ws9 rm (va_Pc (.ref b :: As) (xPreS K wc H.size)) (va_Qi post (fun u t => xPost K (va_A wc H.size) (w1 u) t) (va_A wc H.size)) (xXC K (va_A wc H.size) px wx) mc ms (va_A wc H.size)) (cw : CallW R s args own C index y bytes maxL ret ws9 rm mc ms n) (hK : va_K K.1 vwCl (kt K) s) (hP : va_P K.1 vwCl (wc ++ wr) H) (hD : va_D A (wc ++ wr)) (hS : va_S A s.heap H locs) (hZ : xSt A s s.heap) (hA : ∀ q : Nat, s.heap.size ≤ q → A q)
    (q0 ci : Nat) {q : vw_C} {fs : List Value} (hc : vwCl[ci]? = some q) (hqC : q.1 = C) (he : wc[q0]? = some (b, .inr (ci, fs))) (hn : As.length = n) (hsize : ls.size = nL) (hst : st0 = As.reverse ++ .ref b :: rest) (hW : (rest.map fun v => v.category).sum ≤ 8) (hce : cells + mc ≤ R.cells) (hsl : slots + ms ≤ R.slots) (hdg : decode cc pc = .ok (.invokevirtual index, 3))
    (kx : ∀ (E : String) (ce : Cell) (q9 : Addr) (u : SX) (H1 : Heap) (locs1 : List Loc), px E u → va_P K.1 vwCl (wx u ++ wr) H1 → va_D A (wx u ++ wr) → va_S A s.heap H1 locs1 → H1[q9]? = some ce → ce.vm = .none → s.vm.findClass E = some ce.cls → vx_W p l e R s m args below meth c H1 locs1 (cells + mc) (slots + ms) Q (F0 m pc ls rest) q9)
    (kk : ∀ (r : Int32) (u : S9) (H1 : Heap) (locs1 : List Loc), post r u → va_P K.1 vwCl (w1 u ++ wr) H1 → va_D A (w1 u ++ wr) → va_S A s.heap H1 locs1 → W p l e R s m args below meth c H1 locs1 (cells + mc) (slots + ms) Q (F0 m (pc + 3) ls (.int r :: rest))) : W p l e R s m args below meth c H locs cells slots Q (F0 m pc ls st0) := by
  subst hqC
  have hPc := (P_app hP).1
  have hDc := (D_app hD).1
  have hF := A_of hDc hA hS.1
  refine vx_calli (a := (Value.ref b :: As).toArray) (rest := rest) (vx_runV (g := F0 m pc ls st0) S hM cw ⟨xPreS_blind K wc _ _, va_recv hK hPc hc he, fun U hU hW => ⟨rfl, ⟨by rw [hU], by rw [hU]; exact hPc, va_K.moved hW.alike hK, hDc.weaken (fun _ _ _ _ => trivial)⟩, hZ.call hS hF hU hW⟩⟩ rfl hn hsize hst (lv_room hW) hdg ⟨hce, hsl⟩) hS (fun q _ h => hF q h) hF (fun q _ h => hF q h) (fun E ce q9 u t H1 locs1 ht hvm _ hB hz1 hk1 hS1 hce hcv hcl => ?_) (fun r u t H1 locs1 ht hvm hw hB hz1 hk1 hS1 => ?_)
  · obtain ⟨hpx, hP1, hK1, hD1⟩ := hB
    rw [ht] at hP1
    obtain ⟨hP2, hD2⟩ := back_app hP hD hF hk1 hP1 hD1
    exact kx E ce q9 u H1 locs1 hpx hP2 hD2 hS1 hce hcv hcl
  · obtain ⟨hP1, hK1, hD1⟩ := hB
    rw [ht] at hP1
    obtain ⟨hP2, hD2⟩ := back_app hP hD hF hk1 hP1 hD1
    exact kk r u H1 locs1 hw hP2 hD2 hS1
/-- a call of such a method of the law -/
theorem xl_S {S9 : Type} {post : Int32 → S9 → Prop} {w1 : S9 → va_W} {y : MethodName} {bytes : ByteArray} {maxL nL n index mc ms : Nat} {hh : List (Nat × Nat × Nat × Nat)} {ret : Option FieldType} {ws9 Ts : List Cond} {rm : Room} {own : String} {As st0 : List Value} {wc wr : va_W}
    (S : CallFix p m c cc nL s args Ts own) (hM : vx_Met l y ws9 rm (va_Pc As (xPreS K wc H.size)) (va_Qi post (fun u t => xPost K (va_A wc H.size) (w1 u) t) (va_A wc H.size)) xNo mc ms (va_A wc H.size)) (cw : vx_CSW R s args own index y bytes maxL ret hh ws9 rm mc ms n) (hK : va_K K.1 vwCl (kt K) s) (hP : va_P K.1 vwCl ws H) (hD : va_D A ws) (hS : va_S A s.heap H locs) (hZ : xSt A s s.heap) (hA : ∀ q : Nat, s.heap.size ≤ q → A q)
    (hperm : ws.Perm (wc ++ wr)) (hn : As.length = n) (hsize : ls.size = nL) (hst : st0 = As.reverse ++ rest) (hW : (rest.map fun v => v.category).sum ≤ 8) (hce : cells + mc ≤ R.cells) (hsl : slots + ms ≤ R.slots) (hdg : decode cc pc = .ok (.invokestatic index, 3))
    (kk : ∀ (r : Int32) (u : S9) (H1 : Heap) (locs1 : List Loc), post r u → va_P K.1 vwCl (w1 u ++ wr) H1 → va_D A (w1 u ++ wr) → va_S A s.heap H1 locs1 → W p l e R s m args below meth c H1 locs1 (cells + mc) (slots + ms) Q (F0 m (pc + 3) ls (.int r :: rest))) : W p l e R s m args below meth c H locs cells slots Q (F0 m pc ls st0) := by
  have hP9 := P_perm hperm hP
  have hD9 := D_perm hperm hD
  have hPc := (P_app hP9).1
  have hDc := (D_app hD9).1
  have hF := A_of hDc hA hS.1
  refine vx_calli (a := As.toArray) (rest := rest) (vx_runSX (g := F0 m pc ls st0) S hM cw ⟨xPreS_blind K wc _ _, fun U hU hW => ⟨rfl, ⟨by rw [hU], by rw [hU]; exact hPc, va_K.moved hW.alike hK, hDc.weaken (fun _ _ _ _ => trivial)⟩, hZ.call hS hF hU hW⟩⟩ rfl hn hsize hst (lv_room hW) hdg ⟨hce, hsl⟩) hS (fun q _ h => hF q h) hF (fun q _ h => h.elim) (fun E ce q9 u t H1 locs1 ht hvm hpu _ _ _ _ _ _ _ => hpu.elim) (fun r u t H1 locs1 ht hvm hw hB hz1 hk1 hS1 => ?_)
  obtain ⟨hP1, hK1, hD1⟩ := hB
  rw [ht] at hP1
  obtain ⟨hP2, hD2⟩ := back_app hP9 hD9 hF hk1 hP1 hD1
  exact kk r u H1 locs1 hw hP2 hD2 hS1
/-- it is caught at once, or past a row that names another class -/
theorem xl_c1 {E : String} {ce : Cell} {q : Addr} {rest st : List Value} {own : String} {k1 k2 k3 k4 : Nat} {suf : List (Nat × Nat × Nat × Nat)} (hown : s.vm.findClass own = some m.cls) (htab : c.exceptionTable.toList = tableOf ((k1, k2, k3, k4) :: suf)) (hpc : covers ⟨k1, k2, k3, k4⟩ pc = true) (h0 : k4 ≠ 0) (hE : E ∈ [exI, exA, exS]) (hZ : xSt A s s.heap)
    (hlink : (Cond.classLink own k4 E).before args s = true) (hcell : H[q]? = some ce) (hv : ce.vm = .none) (hcl : s.vm.findClass E = some ce.cls)
    (kk : W p l e R s m args below meth c H locs cells slots Q (F0 m k3 ls [.ref q])) : vx_W p l e R s m args below meth c H locs cells slots Q (F0 m pc ls rest) q :=
  vx_catch hown [] ⟨k1, k2, k3, k4⟩ (tableOf suf) htab (fun z hz => by cases hz) hpc h0 hlink (va_Nw.use rfl (hZ.2.2.2.2.2.2.1 E hE).1) hcell hv hcl kk
theorem xl_c2 {E E1 : String} {ce : Cell} {q : Addr} {rest st : List Value} {own : String} {k1 k2 k3 k4 j1 j2 j3 j4 : Nat} {suf : List (Nat × Nat × Nat × Nat)} (hown : s.vm.findClass own = some m.cls) (htab : c.exceptionTable.toList = tableOf ((j1, j2, j3, j4) :: (k1, k2, k3, k4) :: suf)) (hpc : covers ⟨k1, k2, k3, k4⟩ pc = true) (h0 : k4 ≠ 0) (hj0 : j4 ≠ 0) (hE : E ∈ [exI, exA, exS]) (hEE : (E, E1) ∈ [(exI, exA), (exI, exS), (exA, exI), (exA, exS), (exS, exI), (exS, exA)]) (hZ : xSt A s s.heap)
    (hlink1 : (Cond.classLink own j4 E1).before args s = true) (hlink : (Cond.classLink own k4 E).before args s = true) (hcell : H[q]? = some ce) (hv : ce.vm = .none) (hcl : s.vm.findClass E = some ce.cls)
    (kk : W p l e R s m args below meth c H locs cells slots Q (F0 m k3 ls [.ref q])) : vx_W p l e R s m args below meth c H locs cells slots Q (F0 m pc ls rest) q :=
  vx_catch hown [⟨j1, j2, j3, j4⟩] ⟨k1, k2, k3, k4⟩ (tableOf suf) htab (fun z hz => by
    rcases List.mem_singleton.mp hz with rfl
    exact Or.inr ⟨hj0, E1, hlink1, hZ.2.2.2.2.2.2.2.1 (E, E1) hEE⟩) hpc h0 hlink (va_Nw.use rfl (hZ.2.2.2.2.2.2.1 E hE).1) hcell hv hcl kk
end XLW

abbrev rm_L_append : Room := { frames := 8, cells := 4, slots := 24, locals := 133 }
set_option maxHeartbeats 4000000 in
set_option maxRecDepth 100000 in
theorem c_L_append (l : Launch) (hls : l.stackTraces = false) (K : KX) (x : Nat) (tx : Nat) (ho : Nat) (ca : Nat) (tr : Nat) (hi : Nat) (sl : Nat) (sv : Nat) (v : Int32) (txa : Nat → Nat) (T : HV) (L : Nat) (hL0 : T 1 0 = nI L) (hL0b : L ≤ 120) (o : Nat) (g9 : Nat → Int64) (sz : Nat) : vx_Met l yL_append wsL_append rm_L_append (va_Pc [.ref x, .int v, .ref o] (xPreS K ([(o, aL K 1 g9)] ++ ([(x, .inr (5, [.ref tx, .ref ho, .ref ca, .ref tr, .ref hi, .ref sl, .ref sv]))] ++ tw K tx txa T)) sz)) (va_Qi (fun (r9 : Int32) (uu : (Int32 × Unit) ⊕ Unit) => Sum.elim (fun z => r9 = 0 ∧ kAppend L v = 0 ∧ z.1 = nI (L + 1)) (fun _ => (kAppend L v = 1 ∧ r9 = 1) ∨ (kAppend L v = 2 ∧ r9 = 2)) uu) (fun uu t => xPost K (va_A ([(o, aL K 1 g9)] ++ ([(x, .inr (5, [.ref tx, .ref ho, .ref ca, .ref tr, .ref hi, .ref sl, .ref sv]))] ++ tw K tx txa T)) sz) (Sum.elim (fun z => [(o, aL K 1 (vp_updL g9 0 z.1.toInt64))] ++ ([(x, .inr (5, [.ref tx, .ref ho, .ref ca, .ref tr, .ref hi, .ref sl, .ref sv]))] ++ tw K tx txa (tPut T L (cN v)))) (fun z => [(o, aL K 1 g9)] ++ ([(x, .inr (5, [.ref tx, .ref ho, .ref ca, .ref tr, .ref hi, .ref sl, .ref sv]))] ++ tw K tx txa T)) uu) t) (va_A ([(o, aL K 1 g9)] ++ ([(x, .inr (5, [.ref tx, .ref ho, .ref ca, .ref tr, .ref hi, .ref sl, .ref sv]))] ++ tw K tx txa T)) sz)) xNo 4 24 (va_A ([(o, aL K 1 g9)] ++ ([(x, .inr (5, [.ref tx, .ref ho, .ref ca, .ref tr, .ref hi, .ref sl, .ref sv]))] ++ tw K tx txa T)) sz) := by
  refine xl_start (cc := cL_append) (maxL := 4) (hh := [(0, 9, 12, 13), (0, 9, 15, 15)]) (by decide) rfl (Nat.le_of_ble_eq_true rfl) ?_
  intro p9 e9 s9 m9 below9 meth9 c9 H locs ls A av9 Q9 hx hb hlocks hml hts hown hK hP hD hS hA hsz hZ htab hend hl
  have hown : s9.vm.findClass RL = some m9.cls := hown
  have hl : lv_has ls 4 [(0, .ref x), (1, .int v), (2, .ref o)] := hl
  refine lv_aload_n hx hb dL_append_0 rfl (lv_at hl 2 rfl) ?_
  refine lv_iconst (v := (0 : Int32)) hx hb dL_append_1 (by decide) ?_
  refine lv_aload_n hx hb dL_append_2 rfl (lv_at hl 0 rfl) ?_
  refine lv_iload_n hx hb dL_append_3 rfl (lv_at hl 1 rfl) ?_
  have hP := P_perm List.perm_append_comm hP
  have hD := D_perm List.perm_append_comm hD
  refine xl_V (As := [.int v]) (rest := [.int (0 : Int32), .ref o]) (wc := [(x, .inr (5, [.ref tx, .ref ho, .ref ca, .ref tr, .ref hi, .ref sl, .ref sv]))] ++ tw K tx txa T) (wr := [(o, aL K 1 g9)]) ⟨hx, hb, hml, hown, hts⟩ (c_X5_append l hls K x tx ho ca tr hi sl sv v txa T L hL0 hL0b H.size) (cwV 1 hts gL_append_X5_append rfl rfl rfl (by decide +kernel) ⟨Nat.le_of_ble_eq_true rfl, Nat.le_of_ble_eq_true rfl⟩) hK hP hD hS hZ hA 0 5 rfl rfl rfl rfl hl.1 rfl (Nat.le_of_ble_eq_true rfl) (Nat.le_of_ble_eq_true rfl) (Nat.le_of_ble_eq_true rfl) dL_append_4 (fun E8 ce q9 u8 H locs hpx hP hD hS hce hcv hcl => ?_) (fun r8 u8 H locs hq hP hD hS => ?_)
  · have hP := P_perm List.perm_append_comm hP
    have hD := D_perm List.perm_append_comm hD
    rcases hpx with ⟨hk9, rfl⟩ | ⟨hk9, rfl⟩
    · skip
      refine xl_c1 (st := []) hown htab rfl (by decide) (by decide) hZ (hts (.classLink RL 13 "java/lang/IllegalArgumentException") (by decide +kernel)) hce hcv hcl ?_
      refine lv_astore_n (lv' := [(3, .ref q9), (0, .ref x), (1, .int v), (2, .ref o)]) hx hb dL_append_12 rfl hl (by decide) rfl (fun ls hl => ?_)
      refine lv_iconst (v := (1 : Int32)) hx hb dL_append_13 (by decide) ?_
      exact hend _ _ _ _ _ _ _ (Sum.inr u8) hP hD hS (Nat.le_of_ble_eq_true rfl) (Nat.le_of_ble_eq_true rfl) (Or.inl ⟨hk9, rfl⟩) dL_append_14
    · skip
      refine xl_c2 (st := []) hown htab rfl (by decide) (by decide) (by decide) (by decide) hZ (hts (.classLink RL 13 "java/lang/IllegalArgumentException") (by decide +kernel)) (hts (.classLink RL 15 "java/lang/IllegalStateException") (by decide +kernel)) hce hcv hcl ?_
      refine lv_astore_n (lv' := [(3, .ref q9), (0, .ref x), (1, .int v), (2, .ref o)]) hx hb dL_append_15 rfl hl (by decide) rfl (fun ls hl => ?_)
      refine lv_iconst (v := (2 : Int32)) hx hb dL_append_16 (by decide) ?_
      exact hend _ _ _ _ _ _ _ (Sum.inr u8) hP hD hS (Nat.le_of_ble_eq_true rfl) (Nat.le_of_ble_eq_true rfl) (Or.inr ⟨hk9, rfl⟩) dL_append_17
  · have hP := P_perm List.perm_append_comm hP
    have hD := D_perm List.perm_append_comm hD
    have hP : va_P K.1 vwCl ([(o, aL K 1 g9)] ++ ([(x, .inr (5, [.ref tx, .ref ho, .ref ca, .ref tr, .ref hi, .ref sl, .ref sv]))] ++ tw K tx txa (tPut T L (cN v)))) H := hP
    have hD : va_D A ([(o, aL K 1 g9)] ++ ([(x, .inr (5, [.ref tx, .ref ho, .ref ca, .ref tr, .ref hi, .ref sl, .ref sv]))] ++ tw K tx txa (tPut T L (cN v)))) := hD
    refine lv_i2l (v := r8.toInt64) hx hb dL_append_7 rfl ?_
    refine xl_st hx hb hK hP hD hS 0 (f := g9) rfl 0 rfl (by decide) (by decide) ([(o, aL K 1 (vp_updL g9 0 r8.toInt64))] ++ ([(x, .inr (5, [.ref tx, .ref ho, .ref ca, .ref tr, .ref hi, .ref sl, .ref sv]))] ++ tw K tx txa (tPut T L (cN v)))) rfl dL_append_8 (fun H locs hP hD hS => ?_)
    refine lv_goto (tgt := 18) hx hb dL_append_9 (by decide) ?_
    refine lv_iconst (v := (0 : Int32)) hx hb dL_append_18 (by decide) ?_
    exact hend _ _ _ _ _ _ _ (Sum.inl (r8, u8)) hP hD hS (Nat.le_of_ble_eq_true rfl) (Nat.le_of_ble_eq_true rfl) ⟨rfl, hq⟩ dL_append_19

abbrev rm_L_load : Room := { frames := 8, cells := 4, slots := 24, locals := 185 }
set_option maxHeartbeats 4000000 in
set_option maxRecDepth 100000 in
theorem c_L_load (l : Launch) (hls : l.stackTraces = false) (K : KX) (x : Nat) (tx : Nat) (ho : Nat) (ca : Nat) (tr : Nat) (hi : Nat) (sl : Nat) (sv : Nat) (txa : Nat → Nat) (T : HV) (hoa : Nat → Nat) (S : HV) (caa : Nat → Nat) (C : HV)  (qs : Nat) (cn : Nat) (nx : Nat) (V : Nat → Int32) (L : Nat) (hL0 : T 1 0 = nI L) (hL0b : L ≤ 120) (ch : Nat → Nat) (htx : ∀ i, i < L → T 0 i = nI (ch i) ∧ ch i < 256) (o : Nat) (g9 : Nat → Int64) (sz : Nat) : vx_Met l yL_load wsL_load rm_L_load (va_Pc [.ref x, .ref o] (xPreS K ([(o, aL K 1 g9)] ++ ([(x, .inr (5, [.ref tx, .ref ho, .ref ca, .ref tr, .ref hi, .ref sl, .ref sv]))] ++ tw K tx txa T ++ hw K ho hoa S ++ cw K ca caa C ++ [(hi, .inr (1, [.ref qs, .int (nI cn), .int (nI nx)]))] ++ [(sv, aZ K 2 V)])) sz)) (va_Qi (fun (r9 : Int32) (uu : (Int32 × (Nat × HV)) ⊕ Unit) => Sum.elim (fun z => r9 = 0 ∧ kLoad ch L = 0 ∧ z.1 = nI (dcO ch (hEmp, 0, 0) z.2.1) ∧ L ≤ posC ch z.2.1 ∧ (∀ j, j < z.2.1 → posC ch j < L)) (fun _ => (kLoad ch L = 1 ∧ r9 = 1)) uu) (fun uu t => xPost K (va_A ([(o, aL K 1 g9)] ++ ([(x, .inr (5, [.ref tx, .ref ho, .ref ca, .ref tr, .ref hi, .ref sl, .ref sv]))] ++ tw K tx txa T ++ hw K ho hoa S ++ cw K ca caa C ++ [(hi, .inr (1, [.ref qs, .int (nI cn), .int (nI nx)]))] ++ [(sv, aZ K 2 V)])) sz) (Sum.elim (fun z => [(o, aL K 1 (vp_updL g9 0 z.1.toInt64))] ++ ([(x, .inr (5, [.ref tx, .ref ho, .ref ca, .ref tr, .ref hi, .ref sl, .ref sv]))] ++ tw K tx txa T ++ hw K ho hoa (dcT ch (hEmp, 0, 0) z.2.1).1 ++ cw K ca caa z.2.2 ++ [(hi, .inr (1, [.ref qs, .int (nI 0), .int (nI nx)]))] ++ [(sv, aZ K 2 (upd (upd V 0 0) 1 0))])) (fun z => [(o, aL K 1 g9)] ++ ([(x, .inr (5, [.ref tx, .ref ho, .ref ca, .ref tr, .ref hi, .ref sl, .ref sv]))] ++ tw K tx txa T ++ hw K ho hoa S ++ cw K ca caa C ++ [(hi, .inr (1, [.ref qs, .int (nI cn), .int (nI nx)]))] ++ [(sv, aZ K 2 V)])) uu) t) (va_A ([(o, aL K 1 g9)] ++ ([(x, .inr (5, [.ref tx, .ref ho, .ref ca, .ref tr, .ref hi, .ref sl, .ref sv]))] ++ tw K tx txa T ++ hw K ho hoa S ++ cw K ca caa C ++ [(hi, .inr (1, [.ref qs, .int (nI cn), .int (nI nx)]))] ++ [(sv, aZ K 2 V)])) sz)) xNo 4 24 (va_A ([(o, aL K 1 g9)] ++ ([(x, .inr (5, [.ref tx, .ref ho, .ref ca, .ref tr, .ref hi, .ref sl, .ref sv]))] ++ tw K tx txa T ++ hw K ho hoa S ++ cw K ca caa C ++ [(hi, .inr (1, [.ref qs, .int (nI cn), .int (nI nx)]))] ++ [(sv, aZ K 2 V)])) sz) := by
  refine xl_start (cc := cL_load) (maxL := 3) (hh := [(0, 8, 11, 15)]) (by decide) rfl (Nat.le_of_ble_eq_true rfl) ?_
  intro p9 e9 s9 m9 below9 meth9 c9 H locs ls A av9 Q9 hx hb hlocks hml hts hown hK hP hD hS hA hsz hZ htab hend hl
  have hown : s9.vm.findClass RL = some m9.cls := hown
  have hl : lv_has ls 3 [(0, .ref x), (1, .ref o)] := hl
  refine lv_aload_n hx hb dL_load_0 rfl (lv_at hl 1 rfl) ?_
  refine lv_iconst (v := (0 : Int32)) hx hb dL_load_1 (by decide) ?_
  refine lv_aload_n hx hb dL_load_2 rfl (lv_at hl 0 rfl) ?_
  have hP := P_perm List.perm_append_comm hP
  have hD := D_perm List.perm_append_comm hD
  refine xl_V (As := []) (rest := [.int (0 : Int32), .ref o]) (wc := [(x, .inr (5, [.ref tx, .ref ho, .ref ca, .ref tr, .ref hi, .ref sl, .ref sv]))] ++ tw K tx txa T ++ hw K ho hoa S ++ cw K ca caa C ++ [(hi, .inr (1, [.ref qs, .int (nI cn), .int (nI nx)]))] ++ [(sv, aZ K 2 V)]) (wr := [(o, aL K 1 g9)]) ⟨hx, hb, hml, hown, hts⟩ (c_X5_load l hls K x tx ho ca tr hi sl sv txa T hoa S caa C qs cn nx V L hL0 hL0b ch htx H.size) (cwV 0 hts gL_load_X5_load rfl rfl rfl (by decide +kernel) ⟨Nat.le_of_ble_eq_true rfl, Nat.le_of_ble_eq_true rfl⟩) hK hP hD hS hZ hA 0 5 rfl rfl rfl rfl hl.1 rfl (Nat.le_of_ble_eq_true rfl) (Nat.le_of_ble_eq_true rfl) (Nat.le_of_ble_eq_true rfl) dL_load_3 (fun E8 ce q9 u8 H locs hpx hP hD hS hce hcv hcl => ?_) (fun r8 u8 H locs hq hP hD hS => ?_)
  · have hP := P_perm List.perm_append_comm hP
    have hD := D_perm List.perm_append_comm hD
    obtain ⟨hk9, rfl⟩ := hpx
    refine xl_c1 (st := []) hown htab rfl (by decide) (by decide) hZ (hts (.classLink RL 15 "java/lang/IllegalStateException") (by decide +kernel)) hce hcv hcl ?_
    refine lv_astore_n (lv' := [(2, .ref q9), (0, .ref x), (1, .ref o)]) hx hb dL_load_11 rfl hl (by decide) rfl (fun ls hl => ?_)
    refine lv_iconst (v := (1 : Int32)) hx hb dL_load_12 (by decide) ?_
    exact hend _ _ _ _ _ _ _ (Sum.inr u8) hP hD hS (Nat.le_of_ble_eq_true rfl) (Nat.le_of_ble_eq_true rfl) (⟨hk9, rfl⟩) dL_load_13
  · have hP := P_perm List.perm_append_comm hP
    have hD := D_perm List.perm_append_comm hD
    have hP : va_P K.1 vwCl ([(o, aL K 1 g9)] ++ ([(x, .inr (5, [.ref tx, .ref ho, .ref ca, .ref tr, .ref hi, .ref sl, .ref sv]))] ++ tw K tx txa T ++ hw K ho hoa (dcT ch (hEmp, 0, 0) u8.1).1 ++ cw K ca caa u8.2 ++ [(hi, .inr (1, [.ref qs, .int (nI 0), .int (nI nx)]))] ++ [(sv, aZ K 2 (upd (upd V 0 0) 1 0))])) H := hP
    have hD : va_D A ([(o, aL K 1 g9)] ++ ([(x, .inr (5, [.ref tx, .ref ho, .ref ca, .ref tr, .ref hi, .ref sl, .ref sv]))] ++ tw K tx txa T ++ hw K ho hoa (dcT ch (hEmp, 0, 0) u8.1).1 ++ cw K ca caa u8.2 ++ [(hi, .inr (1, [.ref qs, .int (nI 0), .int (nI nx)]))] ++ [(sv, aZ K 2 (upd (upd V 0 0) 1 0))])) := hD
    refine lv_i2l (v := r8.toInt64) hx hb dL_load_6 rfl ?_
    refine xl_st hx hb hK hP hD hS 0 (f := g9) rfl 0 rfl (by decide) (by decide) ([(o, aL K 1 (vp_updL g9 0 r8.toInt64))] ++ ([(x, .inr (5, [.ref tx, .ref ho, .ref ca, .ref tr, .ref hi, .ref sl, .ref sv]))] ++ tw K tx txa T ++ hw K ho hoa (dcT ch (hEmp, 0, 0) u8.1).1 ++ cw K ca caa u8.2 ++ [(hi, .inr (1, [.ref qs, .int (nI 0), .int (nI nx)]))] ++ [(sv, aZ K 2 (upd (upd V 0 0) 1 0))])) rfl dL_load_7 (fun H locs hP hD hS => ?_)
    refine lv_goto (tgt := 14) hx hb dL_load_8 (by decide) ?_
    refine lv_iconst (v := (0 : Int32)) hx hb dL_load_14 (by decide) ?_
    exact hend _ _ _ _ _ _ _ (Sum.inl (r8, u8)) hP hD hS (Nat.le_of_ble_eq_true rfl) (Nat.le_of_ble_eq_true rfl) ⟨rfl, hq⟩ dL_load_15

abbrev rm_L_about : Room := { frames := 7, cells := 4, slots := 24, locals := 111 }
set_option maxHeartbeats 4000000 in
set_option maxRecDepth 100000 in
theorem c_L_about (l : Launch) (hls : l.stackTraces = false) (K : KX) (x : Nat) (tx : Nat) (ho : Nat) (ca : Nat) (tr : Nat) (hi : Nat) (sl : Nat) (sv : Nat) (w : Int32) (hoa : Nat → Nat) (S : HV) (P : Nat) (hP0 : S 11 0 = nI P) (hP0b : P ≤ 10) (hz : S 16 0 = 0 ∨ S 16 0 = 1) (o : Nat) (g9 : Nat → Int64) (sz : Nat) : vx_Met l yL_about wsL_about rm_L_about (va_Pc [.ref x, .int w, .ref o] (xPreS K ([(o, aL K 1 g9)] ++ ([(x, .inr (5, [.ref tx, .ref ho, .ref ca, .ref tr, .ref hi, .ref sl, .ref sv]))] ++ hw K ho hoa S)) sz)) (va_Qi (fun (r9 : Int32) (uu : (Int32 × Unit) ⊕ Unit) => Sum.elim (fun z => r9 = 0 ∧ kUp w 7 = 0 ∧ z.1 = abF S P w) (fun _ => (kUp w 7 = 1 ∧ r9 = 1)) uu) (fun uu t => xPost K (va_A ([(o, aL K 1 g9)] ++ ([(x, .inr (5, [.ref tx, .ref ho, .ref ca, .ref tr, .ref hi, .ref sl, .ref sv]))] ++ hw K ho hoa S)) sz) (Sum.elim (fun z => [(o, aL K 1 (vp_updL g9 0 z.1.toInt64))] ++ ([(x, .inr (5, [.ref tx, .ref ho, .ref ca, .ref tr, .ref hi, .ref sl, .ref sv]))] ++ hw K ho hoa S)) (fun z => [(o, aL K 1 g9)] ++ ([(x, .inr (5, [.ref tx, .ref ho, .ref ca, .ref tr, .ref hi, .ref sl, .ref sv]))] ++ hw K ho hoa S)) uu) t) (va_A ([(o, aL K 1 g9)] ++ ([(x, .inr (5, [.ref tx, .ref ho, .ref ca, .ref tr, .ref hi, .ref sl, .ref sv]))] ++ hw K ho hoa S)) sz)) xNo 4 24 (va_A ([(o, aL K 1 g9)] ++ ([(x, .inr (5, [.ref tx, .ref ho, .ref ca, .ref tr, .ref hi, .ref sl, .ref sv]))] ++ hw K ho hoa S)) sz) := by
  refine xl_start (cc := cL_about) (maxL := 4) (hh := [(0, 9, 12, 13)]) (by decide) rfl (Nat.le_of_ble_eq_true rfl) ?_
  intro p9 e9 s9 m9 below9 meth9 c9 H locs ls A av9 Q9 hx hb hlocks hml hts hown hK hP hD hS hA hsz hZ htab hend hl
  have hown : s9.vm.findClass RL = some m9.cls := hown
  have hl : lv_has ls 4 [(0, .ref x), (1, .int w), (2, .ref o)] := hl
  refine lv_aload_n hx hb dL_about_0 rfl (lv_at hl 2 rfl) ?_
  refine lv_iconst (v := (0 : Int32)) hx hb dL_about_1 (by decide) ?_
  refine lv_aload_n hx hb dL_about_2 rfl (lv_at hl 0 rfl) ?_
  refine lv_iload_n hx hb dL_about_3 rfl (lv_at hl 1 rfl) ?_
  have hP := P_perm List.perm_append_comm hP
  have hD := D_perm List.perm_append_comm hD
  refine xl_V (As := [.int w]) (rest := [.int (0 : Int32), .ref o]) (wc := [(x, .inr (5, [.ref tx, .ref ho, .ref ca, .ref tr, .ref hi, .ref sl, .ref sv]))] ++ hw K ho hoa S) (wr := [(o, aL K 1 g9)]) ⟨hx, hb, hml, hown, hts⟩ (c_X5_about l hls K x tx ho ca tr hi sl sv w hoa S P hP0 hP0b hz H.size) (cwV 1 hts gL_about_X5_about rfl rfl rfl (by decide +kernel) ⟨Nat.le_of_ble_eq_true rfl, Nat.le_of_ble_eq_true rfl⟩) hK hP hD hS hZ hA 0 5 rfl rfl rfl rfl hl.1 rfl (Nat.le_of_ble_eq_true rfl) (Nat.le_of_ble_eq_true rfl) (Nat.le_of_ble_eq_true rfl) dL_about_4 (fun E8 ce q9 u8 H locs hpx hP hD hS hce hcv hcl => ?_) (fun r8 u8 H locs hq hP hD hS => ?_)
  · have hP := P_perm List.perm_append_comm hP
    have hD := D_perm List.perm_append_comm hD
    obtain ⟨hk9, rfl⟩ := hpx
    refine xl_c1 (st := []) hown htab rfl (by decide) (by decide) hZ (hts (.classLink RL 13 "java/lang/IllegalArgumentException") (by decide +kernel)) hce hcv hcl ?_
    refine lv_astore_n (lv' := [(3, .ref q9), (0, .ref x), (1, .int w), (2, .ref o)]) hx hb dL_about_12 rfl hl (by decide) rfl (fun ls hl => ?_)
    refine lv_iconst (v := (1 : Int32)) hx hb dL_about_13 (by decide) ?_
    exact hend _ _ _ _ _ _ _ (Sum.inr u8) hP hD hS (Nat.le_of_ble_eq_true rfl) (Nat.le_of_ble_eq_true rfl) (⟨hk9, rfl⟩) dL_about_14
  · have hP := P_perm List.perm_append_comm hP
    have hD := D_perm List.perm_append_comm hD
    have hP : va_P K.1 vwCl ([(o, aL K 1 g9)] ++ ([(x, .inr (5, [.ref tx, .ref ho, .ref ca, .ref tr, .ref hi, .ref sl, .ref sv]))] ++ hw K ho hoa S)) H := hP
    have hD : va_D A ([(o, aL K 1 g9)] ++ ([(x, .inr (5, [.ref tx, .ref ho, .ref ca, .ref tr, .ref hi, .ref sl, .ref sv]))] ++ hw K ho hoa S)) := hD
    refine lv_i2l (v := r8.toInt64) hx hb dL_about_7 rfl ?_
    refine xl_st hx hb hK hP hD hS 0 (f := g9) rfl 0 rfl (by decide) (by decide) ([(o, aL K 1 (vp_updL g9 0 r8.toInt64))] ++ ([(x, .inr (5, [.ref tx, .ref ho, .ref ca, .ref tr, .ref hi, .ref sl, .ref sv]))] ++ hw K ho hoa S)) rfl dL_about_8 (fun H locs hP hD hS => ?_)
    refine lv_goto (tgt := 15) hx hb dL_about_9 (by decide) ?_
    refine lv_iconst (v := (0 : Int32)) hx hb dL_about_15 (by decide) ?_
    exact hend _ _ _ _ _ _ _ (Sum.inl (r8, u8)) hP hD hS (Nat.le_of_ble_eq_true rfl) (Nat.le_of_ble_eq_true rfl) ⟨rfl, hq⟩ dL_about_16

abbrev rm_L_role : Room := { frames := 8, cells := 4, slots := 24, locals := 133 }
set_option maxHeartbeats 4000000 in
set_option maxRecDepth 100000 in
theorem c_L_role (l : Launch) (hls : l.stackTraces = false) (K : KX) (x : Nat) (tx : Nat) (ho : Nat) (ca : Nat) (tr : Nat) (hi : Nat) (sl : Nat) (sv : Nat) (r : Int32) (w : Int32) (hoa : Nat → Nat) (S : HV) (caa : Nat → Nat) (C : HV) (R : Nat) (hR0 : S 10 0 = nI R) (hR0b : R ≤ 6) (P : Nat) (hP0 : S 11 0 = nI P) (hP0b : P ≤ 10) (o : Nat) (g9 : Nat → Int64) (sz : Nat) : vx_Met l yL_role wsL_role rm_L_role (va_Pc [.ref x, .int r, .int w, .ref o] (xPreS K ([(o, aL K 1 g9)] ++ ([(x, .inr (5, [.ref tx, .ref ho, .ref ca, .ref tr, .ref hi, .ref sl, .ref sv]))] ++ hw K ho hoa S ++ cw K ca caa C)) sz)) (va_Qi (fun (r9 : Int32) (uu : (Int32 × HV) ⊕ Unit) => Sum.elim (fun z => r9 = 0 ∧ kRole S r w = 0 ∧ z.1 = rlF S R P r w) (fun _ => (kRole S r w = 1 ∧ r9 = 1) ∨ (kRole S r w = 2 ∧ r9 = 2)) uu) (fun uu t => xPost K (va_A ([(o, aL K 1 g9)] ++ ([(x, .inr (5, [.ref tx, .ref ho, .ref ca, .ref tr, .ref hi, .ref sl, .ref sv]))] ++ hw K ho hoa S ++ cw K ca caa C)) sz) (Sum.elim (fun z => [(o, aL K 1 (vp_updL g9 0 z.1.toInt64))] ++ ([(x, .inr (5, [.ref tx, .ref ho, .ref ca, .ref tr, .ref hi, .ref sl, .ref sv]))] ++ hw K ho hoa S ++ cw K ca caa z.2)) (fun z => [(o, aL K 1 g9)] ++ ([(x, .inr (5, [.ref tx, .ref ho, .ref ca, .ref tr, .ref hi, .ref sl, .ref sv]))] ++ hw K ho hoa S ++ cw K ca caa C)) uu) t) (va_A ([(o, aL K 1 g9)] ++ ([(x, .inr (5, [.ref tx, .ref ho, .ref ca, .ref tr, .ref hi, .ref sl, .ref sv]))] ++ hw K ho hoa S ++ cw K ca caa C)) sz)) xNo 4 24 (va_A ([(o, aL K 1 g9)] ++ ([(x, .inr (5, [.ref tx, .ref ho, .ref ca, .ref tr, .ref hi, .ref sl, .ref sv]))] ++ hw K ho hoa S ++ cw K ca caa C)) sz) := by
  refine xl_start (cc := cL_role) (maxL := 5) (hh := [(0, 10, 13, 28), (0, 10, 17, 13)]) (by decide) rfl (Nat.le_of_ble_eq_true rfl) ?_
  intro p9 e9 s9 m9 below9 meth9 c9 H locs ls A av9 Q9 hx hb hlocks hml hts hown hK hP hD hS hA hsz hZ htab hend hl
  have hown : s9.vm.findClass RL = some m9.cls := hown
  have hl : lv_has ls 5 [(0, .ref x), (1, .int r), (2, .int w), (3, .ref o)] := hl
  refine lv_aload_n hx hb dL_role_0 rfl (lv_at hl 3 rfl) ?_
  refine lv_iconst (v := (0 : Int32)) hx hb dL_role_1 (by decide) ?_
  refine lv_aload_n hx hb dL_role_2 rfl (lv_at hl 0 rfl) ?_
  refine lv_iload_n hx hb dL_role_3 rfl (lv_at hl 1 rfl) ?_
  refine lv_iload_n hx hb dL_role_4 rfl (lv_at hl 2 rfl) ?_
  have hP := P_perm List.perm_append_comm hP
  have hD := D_perm List.perm_append_comm hD
  refine xl_V (As := [.int r, .int w]) (rest := [.int (0 : Int32), .ref o]) (wc := [(x, .inr (5, [.ref tx, .ref ho, .ref ca, .ref tr, .ref hi, .ref sl, .ref sv]))] ++ hw K ho hoa S ++ cw K ca caa C) (wr := [(o, aL K 1 g9)]) ⟨hx, hb, hml, hown, hts⟩ (c_X5_role l hls K x tx ho ca tr hi sl sv r w hoa S caa C R hR0 hR0b P hP0 hP0b H.size) (cwV 2 hts gL_role_X5_role rfl rfl rfl (by decide +kernel) ⟨Nat.le_of_ble_eq_true rfl, Nat.le_of_ble_eq_true rfl⟩) hK hP hD hS hZ hA 0 5 rfl rfl rfl rfl hl.1 rfl (Nat.le_of_ble_eq_true rfl) (Nat.le_of_ble_eq_true rfl) (Nat.le_of_ble_eq_true rfl) dL_role_5 (fun E8 ce q9 u8 H locs hpx hP hD hS hce hcv hcl => ?_) (fun r8 u8 H locs hq hP hD hS => ?_)
  · have hP := P_perm List.perm_append_comm hP
    have hD := D_perm List.perm_append_comm hD
    rcases hpx with ⟨hk9, rfl⟩ | ⟨hk9, rfl⟩
    · skip
      refine xl_c1 (st := []) hown htab rfl (by decide) (by decide) hZ (hts (.classLink RL 28 "java/lang/IndexOutOfBoundsException") (by decide +kernel)) hce hcv hcl ?_
      refine lv_astore (lv' := [(4, .ref q9), (0, .ref x), (1, .int r), (2, .int w), (3, .ref o)]) hx hb dL_role_13 hl (by decide) rfl (fun ls hl => ?_)
      refine lv_iconst (v := (1 : Int32)) hx hb dL_role_15 (by decide) ?_
      exact hend _ _ _ _ _ _ _ (Sum.inr u8) hP hD hS (Nat.le_of_ble_eq_true rfl) (Nat.le_of_ble_eq_true rfl) (Or.inl ⟨hk9, rfl⟩) dL_role_16
    · skip
      refine xl_c2 (st := []) hown htab rfl (by decide) (by decide) (by decide) (by decide) hZ (hts (.classLink RL 28 "java/lang/IndexOutOfBoundsException") (by decide +kernel)) (hts (.classLink RL 13 "java/lang/IllegalArgumentException") (by decide +kernel)) hce hcv hcl ?_
      refine lv_astore (lv' := [(4, .ref q9), (0, .ref x), (1, .int r), (2, .int w), (3, .ref o)]) hx hb dL_role_17 hl (by decide) rfl (fun ls hl => ?_)
      refine lv_iconst (v := (2 : Int32)) hx hb dL_role_19 (by decide) ?_
      exact hend _ _ _ _ _ _ _ (Sum.inr u8) hP hD hS (Nat.le_of_ble_eq_true rfl) (Nat.le_of_ble_eq_true rfl) (Or.inr ⟨hk9, rfl⟩) dL_role_20
  · have hP := P_perm List.perm_append_comm hP
    have hD := D_perm List.perm_append_comm hD
    have hP : va_P K.1 vwCl ([(o, aL K 1 g9)] ++ ([(x, .inr (5, [.ref tx, .ref ho, .ref ca, .ref tr, .ref hi, .ref sl, .ref sv]))] ++ hw K ho hoa S ++ cw K ca caa u8)) H := hP
    have hD : va_D A ([(o, aL K 1 g9)] ++ ([(x, .inr (5, [.ref tx, .ref ho, .ref ca, .ref tr, .ref hi, .ref sl, .ref sv]))] ++ hw K ho hoa S ++ cw K ca caa u8)) := hD
    refine lv_i2l (v := r8.toInt64) hx hb dL_role_8 rfl ?_
    refine xl_st hx hb hK hP hD hS 0 (f := g9) rfl 0 rfl (by decide) (by decide) ([(o, aL K 1 (vp_updL g9 0 r8.toInt64))] ++ ([(x, .inr (5, [.ref tx, .ref ho, .ref ca, .ref tr, .ref hi, .ref sl, .ref sv]))] ++ hw K ho hoa S ++ cw K ca caa u8)) rfl dL_role_9 (fun H locs hP hD hS => ?_)
    refine lv_goto (tgt := 21) hx hb dL_role_10 (by decide) ?_
    refine lv_iconst (v := (0 : Int32)) hx hb dL_role_21 (by decide) ?_
    exact hend _ _ _ _ _ _ _ (Sum.inl (r8, u8)) hP hD hS (Nat.le_of_ble_eq_true rfl) (Nat.le_of_ble_eq_true rfl) ⟨rfl, hq⟩ dL_role_22

abbrev rm_L_player : Room := { frames := 8, cells := 4, slots := 24, locals := 133 }
set_option maxHeartbeats 4000000 in
set_option maxRecDepth 100000 in
theorem c_L_player (l : Launch) (hls : l.stackTraces = false) (K : KX) (x : Nat) (tx : Nat) (ho : Nat) (ca : Nat) (tr : Nat) (hi : Nat) (sl : Nat) (sv : Nat) (p : Int32) (w : Int32) (hoa : Nat → Nat) (S : HV) (caa : Nat → Nat) (C : HV) (R : Nat) (hR0 : S 10 0 = nI R) (hR0b : R ≤ 6) (P : Nat) (hP0 : S 11 0 = nI P) (hP0b : P ≤ 10) (o : Nat) (g9 : Nat → Int64) (sz : Nat) : vx_Met l yL_player wsL_player rm_L_player (va_Pc [.ref x, .int p, .int w, .ref o] (xPreS K ([(o, aL K 1 g9)] ++ ([(x, .inr (5, [.ref tx, .ref ho, .ref ca, .ref tr, .ref hi, .ref sl, .ref sv]))] ++ hw K ho hoa S ++ cw K ca caa C)) sz)) (va_Qi (fun (r9 : Int32) (uu : (Int32 × HV) ⊕ Unit) => Sum.elim (fun z => r9 = 0 ∧ kPlayer S p w = 0 ∧ z.1 = plF S R P p w) (fun _ => (kPlayer S p w = 1 ∧ r9 = 1) ∨ (kPlayer S p w = 2 ∧ r9 = 2)) uu) (fun uu t => xPost K (va_A ([(o, aL K 1 g9)] ++ ([(x, .inr (5, [.ref tx, .ref ho, .ref ca, .ref tr, .ref hi, .ref sl, .ref sv]))] ++ hw K ho hoa S ++ cw K ca caa C)) sz) (Sum.elim (fun z => [(o, aL K 1 (vp_updL g9 0 z.1.toInt64))] ++ ([(x, .inr (5, [.ref tx, .ref ho, .ref ca, .ref tr, .ref hi, .ref sl, .ref sv]))] ++ hw K ho hoa S ++ cw K ca caa z.2)) (fun z => [(o, aL K 1 g9)] ++ ([(x, .inr (5, [.ref tx, .ref ho, .ref ca, .ref tr, .ref hi, .ref sl, .ref sv]))] ++ hw K ho hoa S ++ cw K ca caa C)) uu) t) (va_A ([(o, aL K 1 g9)] ++ ([(x, .inr (5, [.ref tx, .ref ho, .ref ca, .ref tr, .ref hi, .ref sl, .ref sv]))] ++ hw K ho hoa S ++ cw K ca caa C)) sz)) xNo 4 24 (va_A ([(o, aL K 1 g9)] ++ ([(x, .inr (5, [.ref tx, .ref ho, .ref ca, .ref tr, .ref hi, .ref sl, .ref sv]))] ++ hw K ho hoa S ++ cw K ca caa C)) sz) := by
  refine xl_start (cc := cL_player) (maxL := 5) (hh := [(0, 10, 13, 28), (0, 10, 17, 13)]) (by decide) rfl (Nat.le_of_ble_eq_true rfl) ?_
  intro p9 e9 s9 m9 below9 meth9 c9 H locs ls A av9 Q9 hx hb hlocks hml hts hown hK hP hD hS hA hsz hZ htab hend hl
  have hown : s9.vm.findClass RL = some m9.cls := hown
  have hl : lv_has ls 5 [(0, .ref x), (1, .int p), (2, .int w), (3, .ref o)] := hl
  refine lv_aload_n hx hb dL_player_0 rfl (lv_at hl 3 rfl) ?_
  refine lv_iconst (v := (0 : Int32)) hx hb dL_player_1 (by decide) ?_
  refine lv_aload_n hx hb dL_player_2 rfl (lv_at hl 0 rfl) ?_
  refine lv_iload_n hx hb dL_player_3 rfl (lv_at hl 1 rfl) ?_
  refine lv_iload_n hx hb dL_player_4 rfl (lv_at hl 2 rfl) ?_
  have hP := P_perm List.perm_append_comm hP
  have hD := D_perm List.perm_append_comm hD
  refine xl_V (As := [.int p, .int w]) (rest := [.int (0 : Int32), .ref o]) (wc := [(x, .inr (5, [.ref tx, .ref ho, .ref ca, .ref tr, .ref hi, .ref sl, .ref sv]))] ++ hw K ho hoa S ++ cw K ca caa C) (wr := [(o, aL K 1 g9)]) ⟨hx, hb, hml, hown, hts⟩ (c_X5_player l hls K x tx ho ca tr hi sl sv p w hoa S caa C R hR0 hR0b P hP0 hP0b H.size) (cwV 2 hts gL_player_X5_player rfl rfl rfl (by decide +kernel) ⟨Nat.le_of_ble_eq_true rfl, Nat.le_of_ble_eq_true rfl⟩) hK hP hD hS hZ hA 0 5 rfl rfl rfl rfl hl.1 rfl (Nat.le_of_ble_eq_true rfl) (Nat.le_of_ble_eq_true rfl) (Nat.le_of_ble_eq_true rfl) dL_player_5 (fun E8 ce q9 u8 H locs hpx hP hD hS hce hcv hcl => ?_) (fun r8 u8 H locs hq hP hD hS => ?_)
  · have hP := P_perm List.perm_append_comm hP
    have hD := D_perm List.perm_append_comm hD
    rcases hpx with ⟨hk9, rfl⟩ | ⟨hk9, rfl⟩
    · skip
      refine xl_c1 (st := []) hown htab rfl (by decide) (by decide) hZ (hts (.classLink RL 28 "java/lang/IndexOutOfBoundsException") (by decide +kernel)) hce hcv hcl ?_
      refine lv_astore (lv' := [(4, .ref q9), (0, .ref x), (1, .int p), (2, .int w), (3, .ref o)]) hx hb dL_player_13 hl (by decide) rfl (fun ls hl => ?_)
      refine lv_iconst (v := (1 : Int32)) hx hb dL_player_15 (by decide) ?_
      exact hend _ _ _ _ _ _ _ (Sum.inr u8) hP hD hS (Nat.le_of_ble_eq_true rfl) (Nat.le_of_ble_eq_true rfl) (Or.inl ⟨hk9, rfl⟩) dL_player_16
    · skip
      refine xl_c2 (st := []) hown htab rfl (by decide) (by decide) (by decide) (by decide) hZ (hts (.classLink RL 28 "java/lang/IndexOutOfBoundsException") (by decide +kernel)) (hts (.classLink RL 13 "java/lang/IllegalArgumentException") (by decide +kernel)) hce hcv hcl ?_
      refine lv_astore (lv' := [(4, .ref q9), (0, .ref x), (1, .int p), (2, .int w), (3, .ref o)]) hx hb dL_player_17 hl (by decide) rfl (fun ls hl => ?_)
      refine lv_iconst (v := (2 : Int32)) hx hb dL_player_19 (by decide) ?_
      exact hend _ _ _ _ _ _ _ (Sum.inr u8) hP hD hS (Nat.le_of_ble_eq_true rfl) (Nat.le_of_ble_eq_true rfl) (Or.inr ⟨hk9, rfl⟩) dL_player_20
  · have hP := P_perm List.perm_append_comm hP
    have hD := D_perm List.perm_append_comm hD
    have hP : va_P K.1 vwCl ([(o, aL K 1 g9)] ++ ([(x, .inr (5, [.ref tx, .ref ho, .ref ca, .ref tr, .ref hi, .ref sl, .ref sv]))] ++ hw K ho hoa S ++ cw K ca caa u8)) H := hP
    have hD : va_D A ([(o, aL K 1 g9)] ++ ([(x, .inr (5, [.ref tx, .ref ho, .ref ca, .ref tr, .ref hi, .ref sl, .ref sv]))] ++ hw K ho hoa S ++ cw K ca caa u8)) := hD
    refine lv_i2l (v := r8.toInt64) hx hb dL_player_8 rfl ?_
    refine xl_st hx hb hK hP hD hS 0 (f := g9) rfl 0 rfl (by decide) (by decide) ([(o, aL K 1 (vp_updL g9 0 r8.toInt64))] ++ ([(x, .inr (5, [.ref tx, .ref ho, .ref ca, .ref tr, .ref hi, .ref sl, .ref sv]))] ++ hw K ho hoa S ++ cw K ca caa u8)) rfl dL_player_9 (fun H locs hP hD hS => ?_)
    refine lv_goto (tgt := 21) hx hb dL_player_10 (by decide) ?_
    refine lv_iconst (v := (0 : Int32)) hx hb dL_player_21 (by decide) ?_
    exact hend _ _ _ _ _ _ _ (Sum.inl (r8, u8)) hP hD hS (Nat.le_of_ble_eq_true rfl) (Nat.le_of_ble_eq_true rfl) ⟨rfl, hq⟩ dL_player_22

abbrev rm_L_both : Room := { frames := 8, cells := 4, slots := 24, locals := 134 }
set_option maxHeartbeats 4000000 in
set_option maxRecDepth 100000 in
theorem c_L_both (l : Launch) (hls : l.stackTraces = false) (K : KX) (x : Nat) (tx : Nat) (ho : Nat) (ca : Nat) (tr : Nat) (hi : Nat) (sl : Nat) (sv : Nat) (p : Int32) (r : Int32) (w : Int32) (hoa : Nat → Nat) (S : HV) (R : Nat) (hR0 : S 10 0 = nI R) (hR0b : R ≤ 6) (P : Nat) (hP0 : S 11 0 = nI P) (hP0b : P ≤ 10) (o : Nat) (g9 : Nat → Int64) (sz : Nat) : vx_Met l yL_both wsL_both rm_L_both (va_Pc [.ref x, .int p, .int r, .int w, .ref o] (xPreS K ([(o, aL K 1 g9)] ++ ([(x, .inr (5, [.ref tx, .ref ho, .ref ca, .ref tr, .ref hi, .ref sl, .ref sv]))] ++ hw K ho hoa S)) sz)) (va_Qi (fun (r9 : Int32) (uu : (Int32 × Unit) ⊕ Unit) => Sum.elim (fun z => r9 = 0 ∧ kBoth S p r w = 0 ∧ z.1 = boF S p r w) (fun _ => (kBoth S p r w = 1 ∧ r9 = 1) ∨ (kBoth S p r w = 2 ∧ r9 = 2)) uu) (fun uu t => xPost K (va_A ([(o, aL K 1 g9)] ++ ([(x, .inr (5, [.ref tx, .ref ho, .ref ca, .ref tr, .ref hi, .ref sl, .ref sv]))] ++ hw K ho hoa S)) sz) (Sum.elim (fun z => [(o, aL K 1 (vp_updL g9 0 z.1.toInt64))] ++ ([(x, .inr (5, [.ref tx, .ref ho, .ref ca, .ref tr, .ref hi, .ref sl, .ref sv]))] ++ hw K ho hoa S)) (fun z => [(o, aL K 1 g9)] ++ ([(x, .inr (5, [.ref tx, .ref ho, .ref ca, .ref tr, .ref hi, .ref sl, .ref sv]))] ++ hw K ho hoa S)) uu) t) (va_A ([(o, aL K 1 g9)] ++ ([(x, .inr (5, [.ref tx, .ref ho, .ref ca, .ref tr, .ref hi, .ref sl, .ref sv]))] ++ hw K ho hoa S)) sz)) xNo 4 24 (va_A ([(o, aL K 1 g9)] ++ ([(x, .inr (5, [.ref tx, .ref ho, .ref ca, .ref tr, .ref hi, .ref sl, .ref sv]))] ++ hw K ho hoa S)) sz) := by
  refine xl_start (cc := cL_both) (maxL := 6) (hh := [(0, 12, 15, 28), (0, 12, 19, 13)]) (by decide) rfl (Nat.le_of_ble_eq_true rfl) ?_
  intro p9 e9 s9 m9 below9 meth9 c9 H locs ls A av9 Q9 hx hb hlocks hml hts hown hK hP hD hS hA hsz hZ htab hend hl
  have hown : s9.vm.findClass RL = some m9.cls := hown
  have hl : lv_has ls 6 [(0, .ref x), (1, .int p), (2, .int r), (3, .int w), (4, .ref o)] := hl
  refine lv_aload hx hb dL_both_0 (lv_at hl 4 rfl) ?_
  refine lv_iconst (v := (0 : Int32)) hx hb dL_both_2 (by decide) ?_
  refine lv_aload_n hx hb dL_both_3 rfl (lv_at hl 0 rfl) ?_
  refine lv_iload_n hx hb dL_both_4 rfl (lv_at hl 1 rfl) ?_
  refine lv_iload_n hx hb dL_both_5 rfl (lv_at hl 2 rfl) ?_
  refine lv_iload_n hx hb dL_both_6 rfl (lv_at hl 3 rfl) ?_
  have hP := P_perm List.perm_append_comm hP
  have hD := D_perm List.perm_append_comm hD
  refine xl_V (As := [.int p, .int r, .int w]) (rest := [.int (0 : Int32), .ref o]) (wc := [(x, .inr (5, [.ref tx, .ref ho, .ref ca, .ref tr, .ref hi, .ref sl, .ref sv]))] ++ hw K ho hoa S) (wr := [(o, aL K 1 g9)]) ⟨hx, hb, hml, hown, hts⟩ (c_X5_both l hls K x tx ho ca tr hi sl sv p r w hoa S R hR0 hR0b P hP0 hP0b H.size) (cwV 3 hts gL_both_X5_both rfl rfl rfl (by decide +kernel) ⟨Nat.le_of_ble_eq_true rfl, Nat.le_of_ble_eq_true rfl⟩) hK hP hD hS hZ hA 0 5 rfl rfl rfl rfl hl.1 rfl (Nat.le_of_ble_eq_true rfl) (Nat.le_of_ble_eq_true rfl) (Nat.le_of_ble_eq_true rfl) dL_both_7 (fun E8 ce q9 u8 H locs hpx hP hD hS hce hcv hcl => ?_) (fun r8 u8 H locs hq hP hD hS => ?_)
  · have hP := P_perm List.perm_append_comm hP
    have hD := D_perm List.perm_append_comm hD
    rcases hpx with ⟨hk9, rfl⟩ | ⟨hk9, rfl⟩
    · skip
      refine xl_c1 (st := []) hown htab rfl (by decide) (by decide) hZ (hts (.classLink RL 28 "java/lang/IndexOutOfBoundsException") (by decide +kernel)) hce hcv hcl ?_
      refine lv_astore (lv' := [(5, .ref q9), (0, .ref x), (1, .int p), (2, .int r), (3, .int w), (4, .ref o)]) hx hb dL_both_15 hl (by decide) rfl (fun ls hl => ?_)
      refine lv_iconst (v := (1 : Int32)) hx hb dL_both_17 (by decide) ?_
      exact hend _ _ _ _ _ _ _ (Sum.inr u8) hP hD hS (Nat.le_of_ble_eq_true rfl) (Nat.le_of_ble_eq_true rfl) (Or.inl ⟨hk9, rfl⟩) dL_both_18
    · skip
      refine xl_c2 (st := []) hown htab rfl (by decide) (by decide) (by decide) (by decide) hZ (hts (.classLink RL 28 "java/lang/IndexOutOfBoundsException") (by decide +kernel)) (hts (.classLink RL 13 "java/lang/IllegalArgumentException") (by decide +kernel)) hce hcv hcl ?_
      refine lv_astore (lv' := [(5, .ref q9), (0, .ref x), (1, .int p), (2, .int r), (3, .int w), (4, .ref o)]) hx hb dL_both_19 hl (by decide) rfl (fun ls hl => ?_)
      refine lv_iconst (v := (2 : Int32)) hx hb dL_both_21 (by decide) ?_
      exact hend _ _ _ _ _ _ _ (Sum.inr u8) hP hD hS (Nat.le_of_ble_eq_true rfl) (Nat.le_of_ble_eq_true rfl) (Or.inr ⟨hk9, rfl⟩) dL_both_22
  · have hP := P_perm List.perm_append_comm hP
    have hD := D_perm List.perm_append_comm hD
    have hP : va_P K.1 vwCl ([(o, aL K 1 g9)] ++ ([(x, .inr (5, [.ref tx, .ref ho, .ref ca, .ref tr, .ref hi, .ref sl, .ref sv]))] ++ hw K ho hoa S)) H := hP
    have hD : va_D A ([(o, aL K 1 g9)] ++ ([(x, .inr (5, [.ref tx, .ref ho, .ref ca, .ref tr, .ref hi, .ref sl, .ref sv]))] ++ hw K ho hoa S)) := hD
    refine lv_i2l (v := r8.toInt64) hx hb dL_both_10 rfl ?_
    refine xl_st hx hb hK hP hD hS 0 (f := g9) rfl 0 rfl (by decide) (by decide) ([(o, aL K 1 (vp_updL g9 0 r8.toInt64))] ++ ([(x, .inr (5, [.ref tx, .ref ho, .ref ca, .ref tr, .ref hi, .ref sl, .ref sv]))] ++ hw K ho hoa S)) rfl dL_both_11 (fun H locs hP hD hS => ?_)
    refine lv_goto (tgt := 23) hx hb dL_both_12 (by decide) ?_
    refine lv_iconst (v := (0 : Int32)) hx hb dL_both_23 (by decide) ?_
    exact hend _ _ _ _ _ _ _ (Sum.inl (r8, u8)) hP hD hS (Nat.le_of_ble_eq_true rfl) (Nat.le_of_ble_eq_true rfl) ⟨rfl, hq⟩ dL_both_24

abbrev rm_L_setting : Room := { frames := 8, cells := 4, slots := 24, locals := 133 }
set_option maxHeartbeats 4000000 in
set_option maxRecDepth 100000 in
theorem c_L_setting (l : Launch) (hls : l.stackTraces = false) (K : KX) (x : Nat) (tx : Nat) (ho : Nat) (ca : Nat) (tr : Nat) (hi : Nat) (sl : Nat) (sv : Nat) (w : Int32) (hoa : Nat → Nat) (S : HV) (o : Nat) (g9 : Nat → Int64) (sz : Nat) : vx_Met l yL_setting wsL_setting rm_L_setting (va_Pc [.ref x, .int w, .ref o] (xPreS K ([(o, aL K 1 g9)] ++ ([(x, .inr (5, [.ref tx, .ref ho, .ref ca, .ref tr, .ref hi, .ref sl, .ref sv]))] ++ hw K ho hoa S)) sz)) (va_Qi (fun (r9 : Int32) (uu : (Int32 × Unit) ⊕ Unit) => Sum.elim (fun z => r9 = 0 ∧ kUp w 4 = 0 ∧ z.1 = S 9 (cN w)) (fun _ => (kUp w 4 = 1 ∧ r9 = 1)) uu) (fun uu t => xPost K (va_A ([(o, aL K 1 g9)] ++ ([(x, .inr (5, [.ref tx, .ref ho, .ref ca, .ref tr, .ref hi, .ref sl, .ref sv]))] ++ hw K ho hoa S)) sz) (Sum.elim (fun z => [(o, aL K 1 (vp_updL g9 0 z.1.toInt64))] ++ ([(x, .inr (5, [.ref tx, .ref ho, .ref ca, .ref tr, .ref hi, .ref sl, .ref sv]))] ++ hw K ho hoa S)) (fun z => [(o, aL K 1 g9)] ++ ([(x, .inr (5, [.ref tx, .ref ho, .ref ca, .ref tr, .ref hi, .ref sl, .ref sv]))] ++ hw K ho hoa S)) uu) t) (va_A ([(o, aL K 1 g9)] ++ ([(x, .inr (5, [.ref tx, .ref ho, .ref ca, .ref tr, .ref hi, .ref sl, .ref sv]))] ++ hw K ho hoa S)) sz)) xNo 4 24 (va_A ([(o, aL K 1 g9)] ++ ([(x, .inr (5, [.ref tx, .ref ho, .ref ca, .ref tr, .ref hi, .ref sl, .ref sv]))] ++ hw K ho hoa S)) sz) := by
  refine xl_start (cc := cL_setting) (maxL := 4) (hh := [(0, 9, 12, 13)]) (by decide) rfl (Nat.le_of_ble_eq_true rfl) ?_
  intro p9 e9 s9 m9 below9 meth9 c9 H locs ls A av9 Q9 hx hb hlocks hml hts hown hK hP hD hS hA hsz hZ htab hend hl
  have hown : s9.vm.findClass RL = some m9.cls := hown
  have hl : lv_has ls 4 [(0, .ref x), (1, .int w), (2, .ref o)] := hl
  refine lv_aload_n hx hb dL_setting_0 rfl (lv_at hl 2 rfl) ?_
  refine lv_iconst (v := (0 : Int32)) hx hb dL_setting_1 (by decide) ?_
  refine lv_aload_n hx hb dL_setting_2 rfl (lv_at hl 0 rfl) ?_
  refine lv_iload_n hx hb dL_setting_3 rfl (lv_at hl 1 rfl) ?_
  have hP := P_perm List.perm_append_comm hP
  have hD := D_perm List.perm_append_comm hD
  refine xl_V (As := [.int w]) (rest := [.int (0 : Int32), .ref o]) (wc := [(x, .inr (5, [.ref tx, .ref ho, .ref ca, .ref tr, .ref hi, .ref sl, .ref sv]))] ++ hw K ho hoa S) (wr := [(o, aL K 1 g9)]) ⟨hx, hb, hml, hown, hts⟩ (c_X5_setting l hls K x tx ho ca tr hi sl sv w hoa S H.size) (cwV 1 hts gL_setting_X5_setting rfl rfl rfl (by decide +kernel) ⟨Nat.le_of_ble_eq_true rfl, Nat.le_of_ble_eq_true rfl⟩) hK hP hD hS hZ hA 0 5 rfl rfl rfl rfl hl.1 rfl (Nat.le_of_ble_eq_true rfl) (Nat.le_of_ble_eq_true rfl) (Nat.le_of_ble_eq_true rfl) dL_setting_4 (fun E8 ce q9 u8 H locs hpx hP hD hS hce hcv hcl => ?_) (fun r8 u8 H locs hq hP hD hS => ?_)
  · have hP := P_perm List.perm_append_comm hP
    have hD := D_perm List.perm_append_comm hD
    obtain ⟨hk9, rfl⟩ := hpx
    refine xl_c1 (st := []) hown htab rfl (by decide) (by decide) hZ (hts (.classLink RL 13 "java/lang/IllegalArgumentException") (by decide +kernel)) hce hcv hcl ?_
    refine lv_astore_n (lv' := [(3, .ref q9), (0, .ref x), (1, .int w), (2, .ref o)]) hx hb dL_setting_12 rfl hl (by decide) rfl (fun ls hl => ?_)
    refine lv_iconst (v := (1 : Int32)) hx hb dL_setting_13 (by decide) ?_
    exact hend _ _ _ _ _ _ _ (Sum.inr u8) hP hD hS (Nat.le_of_ble_eq_true rfl) (Nat.le_of_ble_eq_true rfl) (⟨hk9, rfl⟩) dL_setting_14
  · have hP := P_perm List.perm_append_comm hP
    have hD := D_perm List.perm_append_comm hD
    have hP : va_P K.1 vwCl ([(o, aL K 1 g9)] ++ ([(x, .inr (5, [.ref tx, .ref ho, .ref ca, .ref tr, .ref hi, .ref sl, .ref sv]))] ++ hw K ho hoa S)) H := hP
    have hD : va_D A ([(o, aL K 1 g9)] ++ ([(x, .inr (5, [.ref tx, .ref ho, .ref ca, .ref tr, .ref hi, .ref sl, .ref sv]))] ++ hw K ho hoa S)) := hD
    refine lv_i2l (v := r8.toInt64) hx hb dL_setting_7 rfl ?_
    refine xl_st hx hb hK hP hD hS 0 (f := g9) rfl 0 rfl (by decide) (by decide) ([(o, aL K 1 (vp_updL g9 0 r8.toInt64))] ++ ([(x, .inr (5, [.ref tx, .ref ho, .ref ca, .ref tr, .ref hi, .ref sl, .ref sv]))] ++ hw K ho hoa S)) rfl dL_setting_8 (fun H locs hP hD hS => ?_)
    refine lv_goto (tgt := 15) hx hb dL_setting_9 (by decide) ?_
    refine lv_iconst (v := (0 : Int32)) hx hb dL_setting_15 (by decide) ?_
    exact hend _ _ _ _ _ _ _ (Sum.inl (r8, u8)) hP hD hS (Nat.le_of_ble_eq_true rfl) (Nat.le_of_ble_eq_true rfl) ⟨rfl, hq⟩ dL_setting_16

abbrev rm_L_ranked : Room := { frames := 7, cells := 4, slots := 24, locals := 111 }
set_option maxHeartbeats 4000000 in
set_option maxRecDepth 100000 in
theorem c_L_ranked (l : Launch) (hls : l.stackTraces = false) (K : KX) (x : Nat) (tx : Nat) (ho : Nat) (ca : Nat) (tr : Nat) (hi : Nat) (sl : Nat) (sv : Nat) (k : Int32) (hoa : Nat → Nat) (S : HV) (P : Nat) (hP0 : S 11 0 = nI P) (hP0b : P ≤ 10) (o : Nat) (g9 : Nat → Int64) (sz : Nat) : vx_Met l yL_ranked wsL_ranked rm_L_ranked (va_Pc [.ref x, .int k, .ref o] (xPreS K ([(o, aL K 1 g9)] ++ ([(x, .inr (5, [.ref tx, .ref ho, .ref ca, .ref tr, .ref hi, .ref sl, .ref sv]))] ++ hw K ho hoa S)) sz)) (va_Qi (fun (r9 : Int32) (uu : (Int32 × Unit) ⊕ Unit) => Sum.elim (fun z => r9 = 0 ∧ kRank k = 0 ∧ z.1 = fstF (fun p => decide (plc S p P = k)) 0 P) (fun _ => (kRank k = 1 ∧ r9 = 1)) uu) (fun uu t => xPost K (va_A ([(o, aL K 1 g9)] ++ ([(x, .inr (5, [.ref tx, .ref ho, .ref ca, .ref tr, .ref hi, .ref sl, .ref sv]))] ++ hw K ho hoa S)) sz) (Sum.elim (fun z => [(o, aL K 1 (vp_updL g9 0 z.1.toInt64))] ++ ([(x, .inr (5, [.ref tx, .ref ho, .ref ca, .ref tr, .ref hi, .ref sl, .ref sv]))] ++ hw K ho hoa S)) (fun z => [(o, aL K 1 g9)] ++ ([(x, .inr (5, [.ref tx, .ref ho, .ref ca, .ref tr, .ref hi, .ref sl, .ref sv]))] ++ hw K ho hoa S)) uu) t) (va_A ([(o, aL K 1 g9)] ++ ([(x, .inr (5, [.ref tx, .ref ho, .ref ca, .ref tr, .ref hi, .ref sl, .ref sv]))] ++ hw K ho hoa S)) sz)) xNo 4 24 (va_A ([(o, aL K 1 g9)] ++ ([(x, .inr (5, [.ref tx, .ref ho, .ref ca, .ref tr, .ref hi, .ref sl, .ref sv]))] ++ hw K ho hoa S)) sz) := by
  refine xl_start (cc := cL_ranked) (maxL := 4) (hh := [(0, 9, 12, 13)]) (by decide) rfl (Nat.le_of_ble_eq_true rfl) ?_
  intro p9 e9 s9 m9 below9 meth9 c9 H locs ls A av9 Q9 hx hb hlocks hml hts hown hK hP hD hS hA hsz hZ htab hend hl
  have hown : s9.vm.findClass RL = some m9.cls := hown
  have hl : lv_has ls 4 [(0, .ref x), (1, .int k), (2, .ref o)] := hl
  refine lv_aload_n hx hb dL_ranked_0 rfl (lv_at hl 2 rfl) ?_
  refine lv_iconst (v := (0 : Int32)) hx hb dL_ranked_1 (by decide) ?_
  refine lv_aload_n hx hb dL_ranked_2 rfl (lv_at hl 0 rfl) ?_
  refine lv_iload_n hx hb dL_ranked_3 rfl (lv_at hl 1 rfl) ?_
  have hP := P_perm List.perm_append_comm hP
  have hD := D_perm List.perm_append_comm hD
  refine xl_V (As := [.int k]) (rest := [.int (0 : Int32), .ref o]) (wc := [(x, .inr (5, [.ref tx, .ref ho, .ref ca, .ref tr, .ref hi, .ref sl, .ref sv]))] ++ hw K ho hoa S) (wr := [(o, aL K 1 g9)]) ⟨hx, hb, hml, hown, hts⟩ (c_X5_ranked l hls K x tx ho ca tr hi sl sv k hoa S P hP0 hP0b H.size) (cwV 1 hts gL_ranked_X5_ranked rfl rfl rfl (by decide +kernel) ⟨Nat.le_of_ble_eq_true rfl, Nat.le_of_ble_eq_true rfl⟩) hK hP hD hS hZ hA 0 5 rfl rfl rfl rfl hl.1 rfl (Nat.le_of_ble_eq_true rfl) (Nat.le_of_ble_eq_true rfl) (Nat.le_of_ble_eq_true rfl) dL_ranked_4 (fun E8 ce q9 u8 H locs hpx hP hD hS hce hcv hcl => ?_) (fun r8 u8 H locs hq hP hD hS => ?_)
  · have hP := P_perm List.perm_append_comm hP
    have hD := D_perm List.perm_append_comm hD
    obtain ⟨hk9, rfl⟩ := hpx
    refine xl_c1 (st := []) hown htab rfl (by decide) (by decide) hZ (hts (.classLink RL 13 "java/lang/IllegalArgumentException") (by decide +kernel)) hce hcv hcl ?_
    refine lv_astore_n (lv' := [(3, .ref q9), (0, .ref x), (1, .int k), (2, .ref o)]) hx hb dL_ranked_12 rfl hl (by decide) rfl (fun ls hl => ?_)
    refine lv_iconst (v := (1 : Int32)) hx hb dL_ranked_13 (by decide) ?_
    exact hend _ _ _ _ _ _ _ (Sum.inr u8) hP hD hS (Nat.le_of_ble_eq_true rfl) (Nat.le_of_ble_eq_true rfl) (⟨hk9, rfl⟩) dL_ranked_14
  · have hP := P_perm List.perm_append_comm hP
    have hD := D_perm List.perm_append_comm hD
    have hP : va_P K.1 vwCl ([(o, aL K 1 g9)] ++ ([(x, .inr (5, [.ref tx, .ref ho, .ref ca, .ref tr, .ref hi, .ref sl, .ref sv]))] ++ hw K ho hoa S)) H := hP
    have hD : va_D A ([(o, aL K 1 g9)] ++ ([(x, .inr (5, [.ref tx, .ref ho, .ref ca, .ref tr, .ref hi, .ref sl, .ref sv]))] ++ hw K ho hoa S)) := hD
    refine lv_i2l (v := r8.toInt64) hx hb dL_ranked_7 rfl ?_
    refine xl_st hx hb hK hP hD hS 0 (f := g9) rfl 0 rfl (by decide) (by decide) ([(o, aL K 1 (vp_updL g9 0 r8.toInt64))] ++ ([(x, .inr (5, [.ref tx, .ref ho, .ref ca, .ref tr, .ref hi, .ref sl, .ref sv]))] ++ hw K ho hoa S)) rfl dL_ranked_8 (fun H locs hP hD hS => ?_)
    refine lv_goto (tgt := 15) hx hb dL_ranked_9 (by decide) ?_
    refine lv_iconst (v := (0 : Int32)) hx hb dL_ranked_15 (by decide) ?_
    exact hend _ _ _ _ _ _ _ (Sum.inl (r8, u8)) hP hD hS (Nat.le_of_ble_eq_true rfl) (Nat.le_of_ble_eq_true rfl) ⟨rfl, hq⟩ dL_ranked_16

abbrev rm_L_addRole : Room := { frames := 8, cells := 4, slots := 24, locals := 133 }
set_option maxHeartbeats 4000000 in
set_option maxRecDepth 100000 in
theorem c_L_addRole (l : Launch) (hls : l.stackTraces = false) (K : KX) (x : Nat) (tx : Nat) (ho : Nat) (ca : Nat) (tr : Nat) (hi : Nat) (sl : Nat) (sv : Nat) (w : Int32) (hoa : Nat → Nat) (S : HV)  (qs : Nat) (cn : Nat) (nx : Nat) (hs : Nat → Nat) (as : Nat → Nat → Nat) (Ss : Nat → HV) (hcn : cn ≤ 14) (hnx : nx < 14) (hz : S 16 0 = 0 ∨ S 16 0 = 1) (R : Nat) (hR0 : S 10 0 = nI R) (hR0b : R ≤ 6) (o : Nat) (g9 : Nat → Int64) (sz : Nat) : vx_Met l yL_addRole wsL_addRole rm_L_addRole (va_Pc [.ref x, .int w, .ref o] (xPreS K ([(o, aL K 1 g9)] ++ ([(x, .inr (5, [.ref tx, .ref ho, .ref ca, .ref tr, .ref hi, .ref sl, .ref sv]))] ++ hw K ho hoa S ++ [(hi, .inr (1, [.ref qs, .int (nI cn), .int (nI nx)]))] ++ [(qs, aQ K 14 (fun j => some (hs j)))] ++ hwR K hs as Ss 14)) sz)) (va_Qi (fun (r9 : Int32) (uu : (Int32 × Unit) ⊕ Unit) => Sum.elim (fun z => r9 = 0 ∧ kAddRole S w = 0 ∧ z.1 = nI R) (fun _ => (kAddRole S w = 1 ∧ r9 = 1) ∨ (kAddRole S w = 2 ∧ r9 = 2)) uu) (fun uu t => xPost K (va_A ([(o, aL K 1 g9)] ++ ([(x, .inr (5, [.ref tx, .ref ho, .ref ca, .ref tr, .ref hi, .ref sl, .ref sv]))] ++ hw K ho hoa S ++ [(hi, .inr (1, [.ref qs, .int (nI cn), .int (nI nx)]))] ++ [(qs, aQ K 14 (fun j => some (hs j)))] ++ hwR K hs as Ss 14)) sz) (Sum.elim (fun z => [(o, aL K 1 (vp_updL g9 0 z.1.toInt64))] ++ ([(x, .inr (5, [.ref tx, .ref ho, .ref ca, .ref tr, .ref hi, .ref sl, .ref sv]))] ++ hw K ho hoa (hPutRole S R w) ++ [(hi, .inr (1, [.ref qs, .int (nI (if cn < 14 then cn + 1 else cn)), .int (nI (if nx + 1 < 14 then nx + 1 else 0))]))] ++ [(qs, aQ K 14 (fun j => some (hs j)))] ++ hwR K hs as (va_up Ss nx S) 14)) (fun z => [(o, aL K 1 g9)] ++ ([(x, .inr (5, [.ref tx, .ref ho, .ref ca, .ref tr, .ref hi, .ref sl, .ref sv]))] ++ hw K ho hoa S ++ [(hi, .inr (1, [.ref qs, .int (nI cn), .int (nI nx)]))] ++ [(qs, aQ K 14 (fun j => some (hs j)))] ++ hwR K hs as Ss 14)) uu) t) (va_A ([(o, aL K 1 g9)] ++ ([(x, .inr (5, [.ref tx, .ref ho, .ref ca, .ref tr, .ref hi, .ref sl, .ref sv]))] ++ hw K ho hoa S ++ [(hi, .inr (1, [.ref qs, .int (nI cn), .int (nI nx)]))] ++ [(qs, aQ K 14 (fun j => some (hs j)))] ++ hwR K hs as Ss 14)) sz)) xNo 4 24 (va_A ([(o, aL K 1 g9)] ++ ([(x, .inr (5, [.ref tx, .ref ho, .ref ca, .ref tr, .ref hi, .ref sl, .ref sv]))] ++ hw K ho hoa S ++ [(hi, .inr (1, [.ref qs, .int (nI cn), .int (nI nx)]))] ++ [(qs, aQ K 14 (fun j => some (hs j)))] ++ hwR K hs as Ss 14)) sz) := by
  refine xl_start (cc := cL_addRole) (maxL := 4) (hh := [(0, 9, 12, 13), (0, 9, 15, 15)]) (by decide) rfl (Nat.le_of_ble_eq_true rfl) ?_
  intro p9 e9 s9 m9 below9 meth9 c9 H locs ls A av9 Q9 hx hb hlocks hml hts hown hK hP hD hS hA hsz hZ htab hend hl
  have hown : s9.vm.findClass RL = some m9.cls := hown
  have hl : lv_has ls 4 [(0, .ref x), (1, .int w), (2, .ref o)] := hl
  refine lv_aload_n hx hb dL_addRole_0 rfl (lv_at hl 2 rfl) ?_
  refine lv_iconst (v := (0 : Int32)) hx hb dL_addRole_1 (by decide) ?_
  refine lv_aload_n hx hb dL_addRole_2 rfl (lv_at hl 0 rfl) ?_
  refine lv_iload_n hx hb dL_addRole_3 rfl (lv_at hl 1 rfl) ?_
  have hP := P_perm List.perm_append_comm hP
  have hD := D_perm List.perm_append_comm hD
  refine xl_V (As := [.int w]) (rest := [.int (0 : Int32), .ref o]) (wc := [(x, .inr (5, [.ref tx, .ref ho, .ref ca, .ref tr, .ref hi, .ref sl, .ref sv]))] ++ hw K ho hoa S ++ [(hi, .inr (1, [.ref qs, .int (nI cn), .int (nI nx)]))] ++ [(qs, aQ K 14 (fun j => some (hs j)))] ++ hwR K hs as Ss 14) (wr := [(o, aL K 1 g9)]) ⟨hx, hb, hml, hown, hts⟩ (c_X5_addRole l hls K x tx ho ca tr hi sl sv w hoa S qs cn nx hs as Ss hcn hnx hz R hR0 hR0b H.size) (cwV 1 hts gL_addRole_X5_addRole rfl rfl rfl (by decide +kernel) ⟨Nat.le_of_ble_eq_true rfl, Nat.le_of_ble_eq_true rfl⟩) hK hP hD hS hZ hA 0 5 rfl rfl rfl rfl hl.1 rfl (Nat.le_of_ble_eq_true rfl) (Nat.le_of_ble_eq_true rfl) (Nat.le_of_ble_eq_true rfl) dL_addRole_4 (fun E8 ce q9 u8 H locs hpx hP hD hS hce hcv hcl => ?_) (fun r8 u8 H locs hq hP hD hS => ?_)
  · have hP := P_perm List.perm_append_comm hP
    have hD := D_perm List.perm_append_comm hD
    rcases hpx with ⟨hk9, rfl⟩ | ⟨hk9, rfl⟩
    · skip
      refine xl_c1 (st := []) hown htab rfl (by decide) (by decide) hZ (hts (.classLink RL 13 "java/lang/IllegalArgumentException") (by decide +kernel)) hce hcv hcl ?_
      refine lv_astore_n (lv' := [(3, .ref q9), (0, .ref x), (1, .int w), (2, .ref o)]) hx hb dL_addRole_12 rfl hl (by decide) rfl (fun ls hl => ?_)
      refine lv_iconst (v := (1 : Int32)) hx hb dL_addRole_13 (by decide) ?_
      exact hend _ _ _ _ _ _ _ (Sum.inr u8) hP hD hS (Nat.le_of_ble_eq_true rfl) (Nat.le_of_ble_eq_true rfl) (Or.inl ⟨hk9, rfl⟩) dL_addRole_14
    · skip
      refine xl_c2 (st := []) hown htab rfl (by decide) (by decide) (by decide) (by decide) hZ (hts (.classLink RL 13 "java/lang/IllegalArgumentException") (by decide +kernel)) (hts (.classLink RL 15 "java/lang/IllegalStateException") (by decide +kernel)) hce hcv hcl ?_
      refine lv_astore_n (lv' := [(3, .ref q9), (0, .ref x), (1, .int w), (2, .ref o)]) hx hb dL_addRole_15 rfl hl (by decide) rfl (fun ls hl => ?_)
      refine lv_iconst (v := (2 : Int32)) hx hb dL_addRole_16 (by decide) ?_
      exact hend _ _ _ _ _ _ _ (Sum.inr u8) hP hD hS (Nat.le_of_ble_eq_true rfl) (Nat.le_of_ble_eq_true rfl) (Or.inr ⟨hk9, rfl⟩) dL_addRole_17
  · have hP := P_perm List.perm_append_comm hP
    have hD := D_perm List.perm_append_comm hD
    have hP : va_P K.1 vwCl ([(o, aL K 1 g9)] ++ ([(x, .inr (5, [.ref tx, .ref ho, .ref ca, .ref tr, .ref hi, .ref sl, .ref sv]))] ++ hw K ho hoa (hPutRole S R w) ++ [(hi, .inr (1, [.ref qs, .int (nI (if cn < 14 then cn + 1 else cn)), .int (nI (if nx + 1 < 14 then nx + 1 else 0))]))] ++ [(qs, aQ K 14 (fun j => some (hs j)))] ++ hwR K hs as (va_up Ss nx S) 14)) H := hP
    have hD : va_D A ([(o, aL K 1 g9)] ++ ([(x, .inr (5, [.ref tx, .ref ho, .ref ca, .ref tr, .ref hi, .ref sl, .ref sv]))] ++ hw K ho hoa (hPutRole S R w) ++ [(hi, .inr (1, [.ref qs, .int (nI (if cn < 14 then cn + 1 else cn)), .int (nI (if nx + 1 < 14 then nx + 1 else 0))]))] ++ [(qs, aQ K 14 (fun j => some (hs j)))] ++ hwR K hs as (va_up Ss nx S) 14)) := hD
    refine lv_i2l (v := r8.toInt64) hx hb dL_addRole_7 rfl ?_
    refine xl_st hx hb hK hP hD hS 0 (f := g9) rfl 0 rfl (by decide) (by decide) ([(o, aL K 1 (vp_updL g9 0 r8.toInt64))] ++ ([(x, .inr (5, [.ref tx, .ref ho, .ref ca, .ref tr, .ref hi, .ref sl, .ref sv]))] ++ hw K ho hoa (hPutRole S R w) ++ [(hi, .inr (1, [.ref qs, .int (nI (if cn < 14 then cn + 1 else cn)), .int (nI (if nx + 1 < 14 then nx + 1 else 0))]))] ++ [(qs, aQ K 14 (fun j => some (hs j)))] ++ hwR K hs as (va_up Ss nx S) 14)) rfl dL_addRole_8 (fun H locs hP hD hS => ?_)
    refine lv_goto (tgt := 18) hx hb dL_addRole_9 (by decide) ?_
    refine lv_iconst (v := (0 : Int32)) hx hb dL_addRole_18 (by decide) ?_
    exact hend _ _ _ _ _ _ _ (Sum.inl (r8, u8)) hP hD hS (Nat.le_of_ble_eq_true rfl) (Nat.le_of_ble_eq_true rfl) ⟨rfl, hq⟩ dL_addRole_19

abbrev rm_L_addPlayer : Room := { frames := 7, cells := 4, slots := 24, locals := 110 }
set_option maxHeartbeats 4000000 in
set_option maxRecDepth 100000 in
theorem c_L_addPlayer (l : Launch) (hls : l.stackTraces = false) (K : KX) (x : Nat) (tx : Nat) (ho : Nat) (ca : Nat) (tr : Nat) (hi : Nat) (sl : Nat) (sv : Nat) (hoa : Nat → Nat) (S : HV)  (qs : Nat) (cn : Nat) (nx : Nat) (hs : Nat → Nat) (as : Nat → Nat → Nat) (Ss : Nat → HV) (hcn : cn ≤ 14) (hnx : nx < 14) (hz : S 16 0 = 0 ∨ S 16 0 = 1) (P : Nat) (hP0 : S 11 0 = nI P) (hP0b : P ≤ 10) (o : Nat) (g9 : Nat → Int64) (sz : Nat) : vx_Met l yL_addPlayer wsL_addPlayer rm_L_addPlayer (va_Pc [.ref x, .ref o] (xPreS K ([(o, aL K 1 g9)] ++ ([(x, .inr (5, [.ref tx, .ref ho, .ref ca, .ref tr, .ref hi, .ref sl, .ref sv]))] ++ hw K ho hoa S ++ [(hi, .inr (1, [.ref qs, .int (nI cn), .int (nI nx)]))] ++ [(qs, aQ K 14 (fun j => some (hs j)))] ++ hwR K hs as Ss 14)) sz)) (va_Qi (fun (r9 : Int32) (uu : (Int32 × Unit) ⊕ Unit) => Sum.elim (fun z => r9 = 0 ∧ kAddPlayer S = 0 ∧ z.1 = nI P) (fun _ => (kAddPlayer S = 1 ∧ r9 = 1)) uu) (fun uu t => xPost K (va_A ([(o, aL K 1 g9)] ++ ([(x, .inr (5, [.ref tx, .ref ho, .ref ca, .ref tr, .ref hi, .ref sl, .ref sv]))] ++ hw K ho hoa S ++ [(hi, .inr (1, [.ref qs, .int (nI cn), .int (nI nx)]))] ++ [(qs, aQ K 14 (fun j => some (hs j)))] ++ hwR K hs as Ss 14)) sz) (Sum.elim (fun z => [(o, aL K 1 (vp_updL g9 0 z.1.toInt64))] ++ ([(x, .inr (5, [.ref tx, .ref ho, .ref ca, .ref tr, .ref hi, .ref sl, .ref sv]))] ++ hw K ho hoa (hPutPlayer S) ++ [(hi, .inr (1, [.ref qs, .int (nI (if cn < 14 then cn + 1 else cn)), .int (nI (if nx + 1 < 14 then nx + 1 else 0))]))] ++ [(qs, aQ K 14 (fun j => some (hs j)))] ++ hwR K hs as (va_up Ss nx S) 14)) (fun z => [(o, aL K 1 g9)] ++ ([(x, .inr (5, [.ref tx, .ref ho, .ref ca, .ref tr, .ref hi, .ref sl, .ref sv]))] ++ hw K ho hoa S ++ [(hi, .inr (1, [.ref qs, .int (nI cn), .int (nI nx)]))] ++ [(qs, aQ K 14 (fun j => some (hs j)))] ++ hwR K hs as Ss 14)) uu) t) (va_A ([(o, aL K 1 g9)] ++ ([(x, .inr (5, [.ref tx, .ref ho, .ref ca, .ref tr, .ref hi, .ref sl, .ref sv]))] ++ hw K ho hoa S ++ [(hi, .inr (1, [.ref qs, .int (nI cn), .int (nI nx)]))] ++ [(qs, aQ K 14 (fun j => some (hs j)))] ++ hwR K hs as Ss 14)) sz)) xNo 4 24 (va_A ([(o, aL K 1 g9)] ++ ([(x, .inr (5, [.ref tx, .ref ho, .ref ca, .ref tr, .ref hi, .ref sl, .ref sv]))] ++ hw K ho hoa S ++ [(hi, .inr (1, [.ref qs, .int (nI cn), .int (nI nx)]))] ++ [(qs, aQ K 14 (fun j => some (hs j)))] ++ hwR K hs as Ss 14)) sz) := by
  refine xl_start (cc := cL_addPlayer) (maxL := 3) (hh := [(0, 8, 11, 15)]) (by decide) rfl (Nat.le_of_ble_eq_true rfl) ?_
  intro p9 e9 s9 m9 below9 meth9 c9 H locs ls A av9 Q9 hx hb hlocks hml hts hown hK hP hD hS hA hsz hZ htab hend hl
  have hown : s9.vm.findClass RL = some m9.cls := hown
  have hl : lv_has ls 3 [(0, .ref x), (1, .ref o)] := hl
  refine lv_aload_n hx hb dL_addPlayer_0 rfl (lv_at hl 1 rfl) ?_
  refine lv_iconst (v := (0 : Int32)) hx hb dL_addPlayer_1 (by decide) ?_
  refine lv_aload_n hx hb dL_addPlayer_2 rfl (lv_at hl 0 rfl) ?_
  have hP := P_perm List.perm_append_comm hP
  have hD := D_perm List.perm_append_comm hD
  refine xl_V (As := []) (rest := [.int (0 : Int32), .ref o]) (wc := [(x, .inr (5, [.ref tx, .ref ho, .ref ca, .ref tr, .ref hi, .ref sl, .ref sv]))] ++ hw K ho hoa S ++ [(hi, .inr (1, [.ref qs, .int (nI cn), .int (nI nx)]))] ++ [(qs, aQ K 14 (fun j => some (hs j)))] ++ hwR K hs as Ss 14) (wr := [(o, aL K 1 g9)]) ⟨hx, hb, hml, hown, hts⟩ (c_X5_addPlayer l hls K x tx ho ca tr hi sl sv hoa S qs cn nx hs as Ss hcn hnx hz P hP0 hP0b H.size) (cwV 0 hts gL_addPlayer_X5_addPlayer rfl rfl rfl (by decide +kernel) ⟨Nat.le_of_ble_eq_true rfl, Nat.le_of_ble_eq_true rfl⟩) hK hP hD hS hZ hA 0 5 rfl rfl rfl rfl hl.1 rfl (Nat.le_of_ble_eq_true rfl) (Nat.le_of_ble_eq_true rfl) (Nat.le_of_ble_eq_true rfl) dL_addPlayer_3 (fun E8 ce q9 u8 H locs hpx hP hD hS hce hcv hcl => ?_) (fun r8 u8 H locs hq hP hD hS => ?_)
  · have hP := P_perm List.perm_append_comm hP
    have hD := D_perm List.perm_append_comm hD
    obtain ⟨hk9, rfl⟩ := hpx
    refine xl_c1 (st := []) hown htab rfl (by decide) (by decide) hZ (hts (.classLink RL 15 "java/lang/IllegalStateException") (by decide +kernel)) hce hcv hcl ?_
    refine lv_astore_n (lv' := [(2, .ref q9), (0, .ref x), (1, .ref o)]) hx hb dL_addPlayer_11 rfl hl (by decide) rfl (fun ls hl => ?_)
    refine lv_iconst (v := (1 : Int32)) hx hb dL_addPlayer_12 (by decide) ?_
    exact hend _ _ _ _ _ _ _ (Sum.inr u8) hP hD hS (Nat.le_of_ble_eq_true rfl) (Nat.le_of_ble_eq_true rfl) (⟨hk9, rfl⟩) dL_addPlayer_13
  · have hP := P_perm List.perm_append_comm hP
    have hD := D_perm List.perm_append_comm hD
    have hP : va_P K.1 vwCl ([(o, aL K 1 g9)] ++ ([(x, .inr (5, [.ref tx, .ref ho, .ref ca, .ref tr, .ref hi, .ref sl, .ref sv]))] ++ hw K ho hoa (hPutPlayer S) ++ [(hi, .inr (1, [.ref qs, .int (nI (if cn < 14 then cn + 1 else cn)), .int (nI (if nx + 1 < 14 then nx + 1 else 0))]))] ++ [(qs, aQ K 14 (fun j => some (hs j)))] ++ hwR K hs as (va_up Ss nx S) 14)) H := hP
    have hD : va_D A ([(o, aL K 1 g9)] ++ ([(x, .inr (5, [.ref tx, .ref ho, .ref ca, .ref tr, .ref hi, .ref sl, .ref sv]))] ++ hw K ho hoa (hPutPlayer S) ++ [(hi, .inr (1, [.ref qs, .int (nI (if cn < 14 then cn + 1 else cn)), .int (nI (if nx + 1 < 14 then nx + 1 else 0))]))] ++ [(qs, aQ K 14 (fun j => some (hs j)))] ++ hwR K hs as (va_up Ss nx S) 14)) := hD
    refine lv_i2l (v := r8.toInt64) hx hb dL_addPlayer_6 rfl ?_
    refine xl_st hx hb hK hP hD hS 0 (f := g9) rfl 0 rfl (by decide) (by decide) ([(o, aL K 1 (vp_updL g9 0 r8.toInt64))] ++ ([(x, .inr (5, [.ref tx, .ref ho, .ref ca, .ref tr, .ref hi, .ref sl, .ref sv]))] ++ hw K ho hoa (hPutPlayer S) ++ [(hi, .inr (1, [.ref qs, .int (nI (if cn < 14 then cn + 1 else cn)), .int (nI (if nx + 1 < 14 then nx + 1 else 0))]))] ++ [(qs, aQ K 14 (fun j => some (hs j)))] ++ hwR K hs as (va_up Ss nx S) 14)) rfl dL_addPlayer_7 (fun H locs hP hD hS => ?_)
    refine lv_goto (tgt := 14) hx hb dL_addPlayer_8 (by decide) ?_
    refine lv_iconst (v := (0 : Int32)) hx hb dL_addPlayer_14 (by decide) ?_
    exact hend _ _ _ _ _ _ _ (Sum.inl (r8, u8)) hP hD hS (Nat.le_of_ble_eq_true rfl) (Nat.le_of_ble_eq_true rfl) ⟨rfl, hq⟩ dL_addPlayer_15

abbrev rm_L_ready : Room := { frames := 8, cells := 4, slots := 24, locals := 136 }
set_option maxHeartbeats 4000000 in
set_option maxRecDepth 100000 in
theorem c_L_ready (l : Launch) (hls : l.stackTraces = false) (K : KX) (x : Nat) (tx : Nat) (ho : Nat) (ca : Nat) (tr : Nat) (hi : Nat) (sl : Nat) (sv : Nat) (p : Int32) (r : Int32) (d : Int32) (hoa : Nat → Nat) (S : HV)  (qs : Nat) (cn : Nat) (nx : Nat) (hs : Nat → Nat) (as : Nat → Nat → Nat) (Ss : Nat → HV) (hcn : cn ≤ 14) (hnx : nx < 14) (hz : S 16 0 = 0 ∨ S 16 0 = 1) (R : Nat) (hR0 : S 10 0 = nI R) (hR0b : R ≤ 6) (P : Nat) (hP0 : S 11 0 = nI P) (hP0b : P ≤ 10) (o : Nat) (g9 : Nat → Int64) (sz : Nat) : vx_Met l yL_ready wsL_ready rm_L_ready (va_Pc [.ref x, .int p, .int r, .int d, .ref o] (xPreS K ([(o, aL K 1 g9)] ++ ([(x, .inr (5, [.ref tx, .ref ho, .ref ca, .ref tr, .ref hi, .ref sl, .ref sv]))] ++ hw K ho hoa S ++ [(hi, .inr (1, [.ref qs, .int (nI cn), .int (nI nx)]))] ++ [(qs, aQ K 14 (fun j => some (hs j)))] ++ hwR K hs as Ss 14)) sz)) (va_Qi (fun (r9 : Int32) (uu : (Int32 × Unit) ⊕ Unit) => Sum.elim (fun z => r9 = 0 ∧ kReady S p r d = 0 ∧ z.1 = S 3 (cN r * 10 + cN p)) (fun _ => (kReady S p r d = 1 ∧ r9 = 1) ∨ (kReady S p r d = 2 ∧ r9 = 2)) uu) (fun uu t => xPost K (va_A ([(o, aL K 1 g9)] ++ ([(x, .inr (5, [.ref tx, .ref ho, .ref ca, .ref tr, .ref hi, .ref sl, .ref sv]))] ++ hw K ho hoa S ++ [(hi, .inr (1, [.ref qs, .int (nI cn), .int (nI nx)]))] ++ [(qs, aQ K 14 (fun j => some (hs j)))] ++ hwR K hs as Ss 14)) sz) (Sum.elim (fun z => [(o, aL K 1 (vp_updL g9 0 z.1.toInt64))] ++ ([(x, .inr (5, [.ref tx, .ref ho, .ref ca, .ref tr, .ref hi, .ref sl, .ref sv]))] ++ hw K ho hoa (hset S 3 (cN r * 10 + cN p) d) ++ [(hi, .inr (1, [.ref qs, .int (nI (if cn < 14 then cn + 1 else cn)), .int (nI (if nx + 1 < 14 then nx + 1 else 0))]))] ++ [(qs, aQ K 14 (fun j => some (hs j)))] ++ hwR K hs as (va_up Ss nx S) 14)) (fun z => [(o, aL K 1 g9)] ++ ([(x, .inr (5, [.ref tx, .ref ho, .ref ca, .ref tr, .ref hi, .ref sl, .ref sv]))] ++ hw K ho hoa S ++ [(hi, .inr (1, [.ref qs, .int (nI cn), .int (nI nx)]))] ++ [(qs, aQ K 14 (fun j => some (hs j)))] ++ hwR K hs as Ss 14)) uu) t) (va_A ([(o, aL K 1 g9)] ++ ([(x, .inr (5, [.ref tx, .ref ho, .ref ca, .ref tr, .ref hi, .ref sl, .ref sv]))] ++ hw K ho hoa S ++ [(hi, .inr (1, [.ref qs, .int (nI cn), .int (nI nx)]))] ++ [(qs, aQ K 14 (fun j => some (hs j)))] ++ hwR K hs as Ss 14)) sz)) xNo 4 24 (va_A ([(o, aL K 1 g9)] ++ ([(x, .inr (5, [.ref tx, .ref ho, .ref ca, .ref tr, .ref hi, .ref sl, .ref sv]))] ++ hw K ho hoa S ++ [(hi, .inr (1, [.ref qs, .int (nI cn), .int (nI nx)]))] ++ [(qs, aQ K 14 (fun j => some (hs j)))] ++ hwR K hs as Ss 14)) sz) := by
  refine xl_start (cc := cL_ready) (maxL := 6) (hh := [(0, 12, 15, 28), (0, 12, 19, 13)]) (by decide) rfl (Nat.le_of_ble_eq_true rfl) ?_
  intro p9 e9 s9 m9 below9 meth9 c9 H locs ls A av9 Q9 hx hb hlocks hml hts hown hK hP hD hS hA hsz hZ htab hend hl
  have hown : s9.vm.findClass RL = some m9.cls := hown
  have hl : lv_has ls 6 [(0, .ref x), (1, .int p), (2, .int r), (3, .int d), (4, .ref o)] := hl
  refine lv_aload hx hb dL_ready_0 (lv_at hl 4 rfl) ?_
  refine lv_iconst (v := (0 : Int32)) hx hb dL_ready_2 (by decide) ?_
  refine lv_aload_n hx hb dL_ready_3 rfl (lv_at hl 0 rfl) ?_
  refine lv_iload_n hx hb dL_ready_4 rfl (lv_at hl 1 rfl) ?_
  refine lv_iload_n hx hb dL_ready_5 rfl (lv_at hl 2 rfl) ?_
  refine lv_iload_n hx hb dL_ready_6 rfl (lv_at hl 3 rfl) ?_
  have hP := P_perm List.perm_append_comm hP
  have hD := D_perm List.perm_append_comm hD
  refine xl_V (As := [.int p, .int r, .int d]) (rest := [.int (0 : Int32), .ref o]) (wc := [(x, .inr (5, [.ref tx, .ref ho, .ref ca, .ref tr, .ref hi, .ref sl, .ref sv]))] ++ hw K ho hoa S ++ [(hi, .inr (1, [.ref qs, .int (nI cn), .int (nI nx)]))] ++ [(qs, aQ K 14 (fun j => some (hs j)))] ++ hwR K hs as Ss 14) (wr := [(o, aL K 1 g9)]) ⟨hx, hb, hml, hown, hts⟩ (c_X5_ready l hls K x tx ho ca tr hi sl sv p r d hoa S qs cn nx hs as Ss hcn hnx hz R hR0 hR0b P hP0 hP0b H.size) (cwV 3 hts gL_ready_X5_ready rfl rfl rfl (by decide +kernel) ⟨Nat.le_of_ble_eq_true rfl, Nat.le_of_ble_eq_true rfl⟩) hK hP hD hS hZ hA 0 5 rfl rfl rfl rfl hl.1 rfl (Nat.le_of_ble_eq_true rfl) (Nat.le_of_ble_eq_true rfl) (Nat.le_of_ble_eq_true rfl) dL_ready_7 (fun E8 ce q9 u8 H locs hpx hP hD hS hce hcv hcl => ?_) (fun r8 u8 H locs hq hP hD hS => ?_)
  · have hP := P_perm List.perm_append_comm hP
    have hD := D_perm List.perm_append_comm hD
    rcases hpx with ⟨hk9, rfl⟩ | ⟨hk9, rfl⟩
    · skip
      refine xl_c1 (st := []) hown htab rfl (by decide) (by decide) hZ (hts (.classLink RL 28 "java/lang/IndexOutOfBoundsException") (by decide +kernel)) hce hcv hcl ?_
      refine lv_astore (lv' := [(5, .ref q9), (0, .ref x), (1, .int p), (2, .int r), (3, .int d), (4, .ref o)]) hx hb dL_ready_15 hl (by decide) rfl (fun ls hl => ?_)
      refine lv_iconst (v := (1 : Int32)) hx hb dL_ready_17 (by decide) ?_
      exact hend _ _ _ _ _ _ _ (Sum.inr u8) hP hD hS (Nat.le_of_ble_eq_true rfl) (Nat.le_of_ble_eq_true rfl) (Or.inl ⟨hk9, rfl⟩) dL_ready_18
    · skip
      refine xl_c2 (st := []) hown htab rfl (by decide) (by decide) (by decide) (by decide) hZ (hts (.classLink RL 28 "java/lang/IndexOutOfBoundsException") (by decide +kernel)) (hts (.classLink RL 13 "java/lang/IllegalArgumentException") (by decide +kernel)) hce hcv hcl ?_
      refine lv_astore (lv' := [(5, .ref q9), (0, .ref x), (1, .int p), (2, .int r), (3, .int d), (4, .ref o)]) hx hb dL_ready_19 hl (by decide) rfl (fun ls hl => ?_)
      refine lv_iconst (v := (2 : Int32)) hx hb dL_ready_21 (by decide) ?_
      exact hend _ _ _ _ _ _ _ (Sum.inr u8) hP hD hS (Nat.le_of_ble_eq_true rfl) (Nat.le_of_ble_eq_true rfl) (Or.inr ⟨hk9, rfl⟩) dL_ready_22
  · have hP := P_perm List.perm_append_comm hP
    have hD := D_perm List.perm_append_comm hD
    have hP : va_P K.1 vwCl ([(o, aL K 1 g9)] ++ ([(x, .inr (5, [.ref tx, .ref ho, .ref ca, .ref tr, .ref hi, .ref sl, .ref sv]))] ++ hw K ho hoa (hset S 3 (cN r * 10 + cN p) d) ++ [(hi, .inr (1, [.ref qs, .int (nI (if cn < 14 then cn + 1 else cn)), .int (nI (if nx + 1 < 14 then nx + 1 else 0))]))] ++ [(qs, aQ K 14 (fun j => some (hs j)))] ++ hwR K hs as (va_up Ss nx S) 14)) H := hP
    have hD : va_D A ([(o, aL K 1 g9)] ++ ([(x, .inr (5, [.ref tx, .ref ho, .ref ca, .ref tr, .ref hi, .ref sl, .ref sv]))] ++ hw K ho hoa (hset S 3 (cN r * 10 + cN p) d) ++ [(hi, .inr (1, [.ref qs, .int (nI (if cn < 14 then cn + 1 else cn)), .int (nI (if nx + 1 < 14 then nx + 1 else 0))]))] ++ [(qs, aQ K 14 (fun j => some (hs j)))] ++ hwR K hs as (va_up Ss nx S) 14)) := hD
    refine lv_i2l (v := r8.toInt64) hx hb dL_ready_10 rfl ?_
    refine xl_st hx hb hK hP hD hS 0 (f := g9) rfl 0 rfl (by decide) (by decide) ([(o, aL K 1 (vp_updL g9 0 r8.toInt64))] ++ ([(x, .inr (5, [.ref tx, .ref ho, .ref ca, .ref tr, .ref hi, .ref sl, .ref sv]))] ++ hw K ho hoa (hset S 3 (cN r * 10 + cN p) d) ++ [(hi, .inr (1, [.ref qs, .int (nI (if cn < 14 then cn + 1 else cn)), .int (nI (if nx + 1 < 14 then nx + 1 else 0))]))] ++ [(qs, aQ K 14 (fun j => some (hs j)))] ++ hwR K hs as (va_up Ss nx S) 14)) rfl dL_ready_11 (fun H locs hP hD hS => ?_)
    refine lv_goto (tgt := 23) hx hb dL_ready_12 (by decide) ?_
    refine lv_iconst (v := (0 : Int32)) hx hb dL_ready_23 (by decide) ?_
    exact hend _ _ _ _ _ _ _ (Sum.inl (r8, u8)) hP hD hS (Nat.le_of_ble_eq_true rfl) (Nat.le_of_ble_eq_true rfl) ⟨rfl, hq⟩ dL_ready_24

abbrev rm_L_first : Room := { frames := 8, cells := 4, slots := 24, locals := 134 }
set_option maxHeartbeats 4000000 in
set_option maxRecDepth 100000 in
theorem c_L_first (l : Launch) (hls : l.stackTraces = false) (K : KX) (x : Nat) (tx : Nat) (ho : Nat) (ca : Nat) (tr : Nat) (hi : Nat) (sl : Nat) (sv : Nat) (r : Int32) (p : Int32) (hoa : Nat → Nat) (S : HV)  (qs : Nat) (cn : Nat) (nx : Nat) (hs : Nat → Nat) (as : Nat → Nat → Nat) (Ss : Nat → HV) (hcn : cn ≤ 14) (hnx : nx < 14) (hz : S 16 0 = 0 ∨ S 16 0 = 1) (R : Nat) (hR0 : S 10 0 = nI R) (hR0b : R ≤ 6) (P : Nat) (hP0 : S 11 0 = nI P) (hP0b : P ≤ 10) (o : Nat) (g9 : Nat → Int64) (sz : Nat) : vx_Met l yL_first wsL_first rm_L_first (va_Pc [.ref x, .int r, .int p, .ref o] (xPreS K ([(o, aL K 1 g9)] ++ ([(x, .inr (5, [.ref tx, .ref ho, .ref ca, .ref tr, .ref hi, .ref sl, .ref sv]))] ++ hw K ho hoa S ++ [(hi, .inr (1, [.ref qs, .int (nI cn), .int (nI nx)]))] ++ [(qs, aQ K 14 (fun j => some (hs j)))] ++ hwR K hs as Ss 14)) sz)) (va_Qi (fun (r9 : Int32) (uu : (Int32 × Unit) ⊕ Unit) => Sum.elim (fun z => r9 = 0 ∧ kFirst S r p = 0 ∧ z.1 = S 1 (cN r)) (fun _ => (kFirst S r p = 1 ∧ r9 = 1)) uu) (fun uu t => xPost K (va_A ([(o, aL K 1 g9)] ++ ([(x, .inr (5, [.ref tx, .ref ho, .ref ca, .ref tr, .ref hi, .ref sl, .ref sv]))] ++ hw K ho hoa S ++ [(hi, .inr (1, [.ref qs, .int (nI cn), .int (nI nx)]))] ++ [(qs, aQ K 14 (fun j => some (hs j)))] ++ hwR K hs as Ss 14)) sz) (Sum.elim (fun z => [(o, aL K 1 (vp_updL g9 0 z.1.toInt64))] ++ ([(x, .inr (5, [.ref tx, .ref ho, .ref ca, .ref tr, .ref hi, .ref sl, .ref sv]))] ++ hw K ho hoa (hset S 1 (cN r) (nI (cN p))) ++ [(hi, .inr (1, [.ref qs, .int (nI (if cn < 14 then cn + 1 else cn)), .int (nI (if nx + 1 < 14 then nx + 1 else 0))]))] ++ [(qs, aQ K 14 (fun j => some (hs j)))] ++ hwR K hs as (va_up Ss nx S) 14)) (fun z => [(o, aL K 1 g9)] ++ ([(x, .inr (5, [.ref tx, .ref ho, .ref ca, .ref tr, .ref hi, .ref sl, .ref sv]))] ++ hw K ho hoa S ++ [(hi, .inr (1, [.ref qs, .int (nI cn), .int (nI nx)]))] ++ [(qs, aQ K 14 (fun j => some (hs j)))] ++ hwR K hs as Ss 14)) uu) t) (va_A ([(o, aL K 1 g9)] ++ ([(x, .inr (5, [.ref tx, .ref ho, .ref ca, .ref tr, .ref hi, .ref sl, .ref sv]))] ++ hw K ho hoa S ++ [(hi, .inr (1, [.ref qs, .int (nI cn), .int (nI nx)]))] ++ [(qs, aQ K 14 (fun j => some (hs j)))] ++ hwR K hs as Ss 14)) sz)) xNo 4 24 (va_A ([(o, aL K 1 g9)] ++ ([(x, .inr (5, [.ref tx, .ref ho, .ref ca, .ref tr, .ref hi, .ref sl, .ref sv]))] ++ hw K ho hoa S ++ [(hi, .inr (1, [.ref qs, .int (nI cn), .int (nI nx)]))] ++ [(qs, aQ K 14 (fun j => some (hs j)))] ++ hwR K hs as Ss 14)) sz) := by
  refine xl_start (cc := cL_first) (maxL := 5) (hh := [(0, 10, 13, 28)]) (by decide) rfl (Nat.le_of_ble_eq_true rfl) ?_
  intro p9 e9 s9 m9 below9 meth9 c9 H locs ls A av9 Q9 hx hb hlocks hml hts hown hK hP hD hS hA hsz hZ htab hend hl
  have hown : s9.vm.findClass RL = some m9.cls := hown
  have hl : lv_has ls 5 [(0, .ref x), (1, .int r), (2, .int p), (3, .ref o)] := hl
  refine lv_aload_n hx hb dL_first_0 rfl (lv_at hl 3 rfl) ?_
  refine lv_iconst (v := (0 : Int32)) hx hb dL_first_1 (by decide) ?_
  refine lv_aload_n hx hb dL_first_2 rfl (lv_at hl 0 rfl) ?_
  refine lv_iload_n hx hb dL_first_3 rfl (lv_at hl 1 rfl) ?_
  refine lv_iload_n hx hb dL_first_4 rfl (lv_at hl 2 rfl) ?_
  have hP := P_perm List.perm_append_comm hP
  have hD := D_perm List.perm_append_comm hD
  refine xl_V (As := [.int r, .int p]) (rest := [.int (0 : Int32), .ref o]) (wc := [(x, .inr (5, [.ref tx, .ref ho, .ref ca, .ref tr, .ref hi, .ref sl, .ref sv]))] ++ hw K ho hoa S ++ [(hi, .inr (1, [.ref qs, .int (nI cn), .int (nI nx)]))] ++ [(qs, aQ K 14 (fun j => some (hs j)))] ++ hwR K hs as Ss 14) (wr := [(o, aL K 1 g9)]) ⟨hx, hb, hml, hown, hts⟩ (c_X5_first l hls K x tx ho ca tr hi sl sv r p hoa S qs cn nx hs as Ss hcn hnx hz R hR0 hR0b P hP0 hP0b H.size) (cwV 2 hts gL_first_X5_first rfl rfl rfl (by decide +kernel) ⟨Nat.le_of_ble_eq_true rfl, Nat.le_of_ble_eq_true rfl⟩) hK hP hD hS hZ hA 0 5 rfl rfl rfl rfl hl.1 rfl (Nat.le_of_ble_eq_true rfl) (Nat.le_of_ble_eq_true rfl) (Nat.le_of_ble_eq_true rfl) dL_first_5 (fun E8 ce q9 u8 H locs hpx hP hD hS hce hcv hcl => ?_) (fun r8 u8 H locs hq hP hD hS => ?_)
  · have hP := P_perm List.perm_append_comm hP
    have hD := D_perm List.perm_append_comm hD
    obtain ⟨hk9, rfl⟩ := hpx
    refine xl_c1 (st := []) hown htab rfl (by decide) (by decide) hZ (hts (.classLink RL 28 "java/lang/IndexOutOfBoundsException") (by decide +kernel)) hce hcv hcl ?_
    refine lv_astore (lv' := [(4, .ref q9), (0, .ref x), (1, .int r), (2, .int p), (3, .ref o)]) hx hb dL_first_13 hl (by decide) rfl (fun ls hl => ?_)
    refine lv_iconst (v := (1 : Int32)) hx hb dL_first_15 (by decide) ?_
    exact hend _ _ _ _ _ _ _ (Sum.inr u8) hP hD hS (Nat.le_of_ble_eq_true rfl) (Nat.le_of_ble_eq_true rfl) (⟨hk9, rfl⟩) dL_first_16
  · have hP := P_perm List.perm_append_comm hP
    have hD := D_perm List.perm_append_comm hD
    have hP : va_P K.1 vwCl ([(o, aL K 1 g9)] ++ ([(x, .inr (5, [.ref tx, .ref ho, .ref ca, .ref tr, .ref hi, .ref sl, .ref sv]))] ++ hw K ho hoa (hset S 1 (cN r) (nI (cN p))) ++ [(hi, .inr (1, [.ref qs, .int (nI (if cn < 14 then cn + 1 else cn)), .int (nI (if nx + 1 < 14 then nx + 1 else 0))]))] ++ [(qs, aQ K 14 (fun j => some (hs j)))] ++ hwR K hs as (va_up Ss nx S) 14)) H := hP
    have hD : va_D A ([(o, aL K 1 g9)] ++ ([(x, .inr (5, [.ref tx, .ref ho, .ref ca, .ref tr, .ref hi, .ref sl, .ref sv]))] ++ hw K ho hoa (hset S 1 (cN r) (nI (cN p))) ++ [(hi, .inr (1, [.ref qs, .int (nI (if cn < 14 then cn + 1 else cn)), .int (nI (if nx + 1 < 14 then nx + 1 else 0))]))] ++ [(qs, aQ K 14 (fun j => some (hs j)))] ++ hwR K hs as (va_up Ss nx S) 14)) := hD
    refine lv_i2l (v := r8.toInt64) hx hb dL_first_8 rfl ?_
    refine xl_st hx hb hK hP hD hS 0 (f := g9) rfl 0 rfl (by decide) (by decide) ([(o, aL K 1 (vp_updL g9 0 r8.toInt64))] ++ ([(x, .inr (5, [.ref tx, .ref ho, .ref ca, .ref tr, .ref hi, .ref sl, .ref sv]))] ++ hw K ho hoa (hset S 1 (cN r) (nI (cN p))) ++ [(hi, .inr (1, [.ref qs, .int (nI (if cn < 14 then cn + 1 else cn)), .int (nI (if nx + 1 < 14 then nx + 1 else 0))]))] ++ [(qs, aQ K 14 (fun j => some (hs j)))] ++ hwR K hs as (va_up Ss nx S) 14)) rfl dL_first_9 (fun H locs hP hD hS => ?_)
    refine lv_goto (tgt := 17) hx hb dL_first_10 (by decide) ?_
    refine lv_iconst (v := (0 : Int32)) hx hb dL_first_17 (by decide) ?_
    exact hend _ _ _ _ _ _ _ (Sum.inl (r8, u8)) hP hD hS (Nat.le_of_ble_eq_true rfl) (Nat.le_of_ble_eq_true rfl) ⟨rfl, hq⟩ dL_first_18

abbrev rm_L_away : Room := { frames := 8, cells := 4, slots := 24, locals := 134 }
set_option maxHeartbeats 4000000 in
set_option maxRecDepth 100000 in
theorem c_L_away (l : Launch) (hls : l.stackTraces = false) (K : KX) (x : Nat) (tx : Nat) (ho : Nat) (ca : Nat) (tr : Nat) (hi : Nat) (sl : Nat) (sv : Nat) (p : Int32) (d : Int32) (hoa : Nat → Nat) (S : HV)  (qs : Nat) (cn : Nat) (nx : Nat) (hs : Nat → Nat) (as : Nat → Nat → Nat) (Ss : Nat → HV) (hcn : cn ≤ 14) (hnx : nx < 14) (hz : S 16 0 = 0 ∨ S 16 0 = 1) (P : Nat) (hP0 : S 11 0 = nI P) (hP0b : P ≤ 10) (o : Nat) (g9 : Nat → Int64) (sz : Nat) : vx_Met l yL_away wsL_away rm_L_away (va_Pc [.ref x, .int p, .int d, .ref o] (xPreS K ([(o, aL K 1 g9)] ++ ([(x, .inr (5, [.ref tx, .ref ho, .ref ca, .ref tr, .ref hi, .ref sl, .ref sv]))] ++ hw K ho hoa S ++ [(hi, .inr (1, [.ref qs, .int (nI cn), .int (nI nx)]))] ++ [(qs, aQ K 14 (fun j => some (hs j)))] ++ hwR K hs as Ss 14)) sz)) (va_Qi (fun (r9 : Int32) (uu : (Int32 × Unit) ⊕ Unit) => Sum.elim (fun z => r9 = 0 ∧ kAway S p d = 0 ∧ z.1 = S 12 0 + d) (fun _ => (kAway S p d = 1 ∧ r9 = 1) ∨ (kAway S p d = 2 ∧ r9 = 2)) uu) (fun uu t => xPost K (va_A ([(o, aL K 1 g9)] ++ ([(x, .inr (5, [.ref tx, .ref ho, .ref ca, .ref tr, .ref hi, .ref sl, .ref sv]))] ++ hw K ho hoa S ++ [(hi, .inr (1, [.ref qs, .int (nI cn), .int (nI nx)]))] ++ [(qs, aQ K 14 (fun j => some (hs j)))] ++ hwR K hs as Ss 14)) sz) (Sum.elim (fun z => [(o, aL K 1 (vp_updL g9 0 z.1.toInt64))] ++ ([(x, .inr (5, [.ref tx, .ref ho, .ref ca, .ref tr, .ref hi, .ref sl, .ref sv]))] ++ hw K ho hoa (hAway S (cN p) (cN d)) ++ [(hi, .inr (1, [.ref qs, .int (nI (if cn < 14 then cn + 1 else cn)), .int (nI (if nx + 1 < 14 then nx + 1 else 0))]))] ++ [(qs, aQ K 14 (fun j => some (hs j)))] ++ hwR K hs as (va_up Ss nx S) 14)) (fun z => [(o, aL K 1 g9)] ++ ([(x, .inr (5, [.ref tx, .ref ho, .ref ca, .ref tr, .ref hi, .ref sl, .ref sv]))] ++ hw K ho hoa S ++ [(hi, .inr (1, [.ref qs, .int (nI cn), .int (nI nx)]))] ++ [(qs, aQ K 14 (fun j => some (hs j)))] ++ hwR K hs as Ss 14)) uu) t) (va_A ([(o, aL K 1 g9)] ++ ([(x, .inr (5, [.ref tx, .ref ho, .ref ca, .ref tr, .ref hi, .ref sl, .ref sv]))] ++ hw K ho hoa S ++ [(hi, .inr (1, [.ref qs, .int (nI cn), .int (nI nx)]))] ++ [(qs, aQ K 14 (fun j => some (hs j)))] ++ hwR K hs as Ss 14)) sz)) xNo 4 24 (va_A ([(o, aL K 1 g9)] ++ ([(x, .inr (5, [.ref tx, .ref ho, .ref ca, .ref tr, .ref hi, .ref sl, .ref sv]))] ++ hw K ho hoa S ++ [(hi, .inr (1, [.ref qs, .int (nI cn), .int (nI nx)]))] ++ [(qs, aQ K 14 (fun j => some (hs j)))] ++ hwR K hs as Ss 14)) sz) := by
  refine xl_start (cc := cL_away) (maxL := 5) (hh := [(0, 10, 13, 28), (0, 10, 17, 13)]) (by decide) rfl (Nat.le_of_ble_eq_true rfl) ?_
  intro p9 e9 s9 m9 below9 meth9 c9 H locs ls A av9 Q9 hx hb hlocks hml hts hown hK hP hD hS hA hsz hZ htab hend hl
  have hown : s9.vm.findClass RL = some m9.cls := hown
  have hl : lv_has ls 5 [(0, .ref x), (1, .int p), (2, .int d), (3, .ref o)] := hl
  refine lv_aload_n hx hb dL_away_0 rfl (lv_at hl 3 rfl) ?_
  refine lv_iconst (v := (0 : Int32)) hx hb dL_away_1 (by decide) ?_
  refine lv_aload_n hx hb dL_away_2 rfl (lv_at hl 0 rfl) ?_
  refine lv_iload_n hx hb dL_away_3 rfl (lv_at hl 1 rfl) ?_
  refine lv_iload_n hx hb dL_away_4 rfl (lv_at hl 2 rfl) ?_
  have hP := P_perm List.perm_append_comm hP
  have hD := D_perm List.perm_append_comm hD
  refine xl_V (As := [.int p, .int d]) (rest := [.int (0 : Int32), .ref o]) (wc := [(x, .inr (5, [.ref tx, .ref ho, .ref ca, .ref tr, .ref hi, .ref sl, .ref sv]))] ++ hw K ho hoa S ++ [(hi, .inr (1, [.ref qs, .int (nI cn), .int (nI nx)]))] ++ [(qs, aQ K 14 (fun j => some (hs j)))] ++ hwR K hs as Ss 14) (wr := [(o, aL K 1 g9)]) ⟨hx, hb, hml, hown, hts⟩ (c_X5_away l hls K x tx ho ca tr hi sl sv p d hoa S qs cn nx hs as Ss hcn hnx hz P hP0 hP0b H.size) (cwV 2 hts gL_away_X5_away rfl rfl rfl (by decide +kernel) ⟨Nat.le_of_ble_eq_true rfl, Nat.le_of_ble_eq_true rfl⟩) hK hP hD hS hZ hA 0 5 rfl rfl rfl rfl hl.1 rfl (Nat.le_of_ble_eq_true rfl) (Nat.le_of_ble_eq_true rfl) (Nat.le_of_ble_eq_true rfl) dL_away_5 (fun E8 ce q9 u8 H locs hpx hP hD hS hce hcv hcl => ?_) (fun r8 u8 H locs hq hP hD hS => ?_)
  · have hP := P_perm List.perm_append_comm hP
    have hD := D_perm List.perm_append_comm hD
    rcases hpx with ⟨hk9, rfl⟩ | ⟨hk9, rfl⟩
    · skip
      refine xl_c1 (st := []) hown htab rfl (by decide) (by decide) hZ (hts (.classLink RL 28 "java/lang/IndexOutOfBoundsException") (by decide +kernel)) hce hcv hcl ?_
      refine lv_astore (lv' := [(4, .ref q9), (0, .ref x), (1, .int p), (2, .int d), (3, .ref o)]) hx hb dL_away_13 hl (by decide) rfl (fun ls hl => ?_)
      refine lv_iconst (v := (1 : Int32)) hx hb dL_away_15 (by decide) ?_
      exact hend _ _ _ _ _ _ _ (Sum.inr u8) hP hD hS (Nat.le_of_ble_eq_true rfl) (Nat.le_of_ble_eq_true rfl) (Or.inl ⟨hk9, rfl⟩) dL_away_16
    · skip
      refine xl_c2 (st := []) hown htab rfl (by decide) (by decide) (by decide) (by decide) hZ (hts (.classLink RL 28 "java/lang/IndexOutOfBoundsException") (by decide +kernel)) (hts (.classLink RL 13 "java/lang/IllegalArgumentException") (by decide +kernel)) hce hcv hcl ?_
      refine lv_astore (lv' := [(4, .ref q9), (0, .ref x), (1, .int p), (2, .int d), (3, .ref o)]) hx hb dL_away_17 hl (by decide) rfl (fun ls hl => ?_)
      refine lv_iconst (v := (2 : Int32)) hx hb dL_away_19 (by decide) ?_
      exact hend _ _ _ _ _ _ _ (Sum.inr u8) hP hD hS (Nat.le_of_ble_eq_true rfl) (Nat.le_of_ble_eq_true rfl) (Or.inr ⟨hk9, rfl⟩) dL_away_20
  · have hP := P_perm List.perm_append_comm hP
    have hD := D_perm List.perm_append_comm hD
    have hP : va_P K.1 vwCl ([(o, aL K 1 g9)] ++ ([(x, .inr (5, [.ref tx, .ref ho, .ref ca, .ref tr, .ref hi, .ref sl, .ref sv]))] ++ hw K ho hoa (hAway S (cN p) (cN d)) ++ [(hi, .inr (1, [.ref qs, .int (nI (if cn < 14 then cn + 1 else cn)), .int (nI (if nx + 1 < 14 then nx + 1 else 0))]))] ++ [(qs, aQ K 14 (fun j => some (hs j)))] ++ hwR K hs as (va_up Ss nx S) 14)) H := hP
    have hD : va_D A ([(o, aL K 1 g9)] ++ ([(x, .inr (5, [.ref tx, .ref ho, .ref ca, .ref tr, .ref hi, .ref sl, .ref sv]))] ++ hw K ho hoa (hAway S (cN p) (cN d)) ++ [(hi, .inr (1, [.ref qs, .int (nI (if cn < 14 then cn + 1 else cn)), .int (nI (if nx + 1 < 14 then nx + 1 else 0))]))] ++ [(qs, aQ K 14 (fun j => some (hs j)))] ++ hwR K hs as (va_up Ss nx S) 14)) := hD
    refine lv_i2l (v := r8.toInt64) hx hb dL_away_8 rfl ?_
    refine xl_st hx hb hK hP hD hS 0 (f := g9) rfl 0 rfl (by decide) (by decide) ([(o, aL K 1 (vp_updL g9 0 r8.toInt64))] ++ ([(x, .inr (5, [.ref tx, .ref ho, .ref ca, .ref tr, .ref hi, .ref sl, .ref sv]))] ++ hw K ho hoa (hAway S (cN p) (cN d)) ++ [(hi, .inr (1, [.ref qs, .int (nI (if cn < 14 then cn + 1 else cn)), .int (nI (if nx + 1 < 14 then nx + 1 else 0))]))] ++ [(qs, aQ K 14 (fun j => some (hs j)))] ++ hwR K hs as (va_up Ss nx S) 14)) rfl dL_away_9 (fun H locs hP hD hS => ?_)
    refine lv_goto (tgt := 21) hx hb dL_away_10 (by decide) ?_
    refine lv_iconst (v := (0 : Int32)) hx hb dL_away_21 (by decide) ?_
    exact hend _ _ _ _ _ _ _ (Sum.inl (r8, u8)) hP hD hS (Nat.le_of_ble_eq_true rfl) (Nat.le_of_ble_eq_true rfl) ⟨rfl, hq⟩ dL_away_22

abbrev rm_L_post : Room := { frames := 7, cells := 4, slots := 24, locals := 137 }
set_option maxHeartbeats 4000000 in
set_option maxRecDepth 100000 in
theorem c_L_post (l : Launch) (hls : l.stackTraces = false) (K : KX) (x : Nat) (tx : Nat) (ho : Nat) (ca : Nat) (tr : Nat) (hi : Nat) (sl : Nat) (sv : Nat) (hoa : Nat → Nat) (S : HV) (caa : Nat → Nat) (C : HV)  (qs : Nat) (cn : Nat) (nx : Nat) (hs : Nat → Nat) (as : Nat → Nat → Nat) (Ss : Nat → HV) (hcn : cn ≤ 14) (hnx : nx < 14) (hz : S 16 0 = 0 ∨ S 16 0 = 1) (R : Nat) (hR0 : S 10 0 = nI R) (hR0b : R ≤ 6) (P : Nat) (hP0 : S 11 0 = nI P) (hP0b : P ≤ 10) (o : Nat) (g9 : Nat → Int64) (sz : Nat) : vx_Met l yL_post wsL_post rm_L_post (va_Pc [.ref x, .ref o] (xPreS K ([(o, aL K 1 g9)] ++ ([(x, .inr (5, [.ref tx, .ref ho, .ref ca, .ref tr, .ref hi, .ref sl, .ref sv]))] ++ hw K ho hoa S ++ cw K ca caa C ++ [(hi, .inr (1, [.ref qs, .int (nI cn), .int (nI nx)]))] ++ [(qs, aQ K 14 (fun j => some (hs j)))] ++ hwR K hs as Ss 14)) sz)) (va_Qi (fun (r9 : Int32) (uu : (Int32 × HV) ⊕ HV) => Sum.elim (fun z => r9 = 0 ∧ kPost S R P = 0 ∧ z.1 = hStr S R P) (fun _ => (kPost S R P = 1 ∧ r9 = 1)) uu) (fun uu t => xPost K (va_A ([(o, aL K 1 g9)] ++ ([(x, .inr (5, [.ref tx, .ref ho, .ref ca, .ref tr, .ref hi, .ref sl, .ref sv]))] ++ hw K ho hoa S ++ cw K ca caa C ++ [(hi, .inr (1, [.ref qs, .int (nI cn), .int (nI nx)]))] ++ [(qs, aQ K 14 (fun j => some (hs j)))] ++ hwR K hs as Ss 14)) sz) (Sum.elim (fun z => [(o, aL K 1 (vp_updL g9 0 z.1.toInt64))] ++ ([(x, .inr (5, [.ref tx, .ref ho, .ref ca, .ref tr, .ref hi, .ref sl, .ref sv]))] ++ hw K ho hoa (hPost S R P) ++ cw K ca caa z.2 ++ [(hi, .inr (1, [.ref qs, .int (nI (if cn < 14 then cn + 1 else cn)), .int (nI (if nx + 1 < 14 then nx + 1 else 0))]))] ++ [(qs, aQ K 14 (fun j => some (hs j)))] ++ hwR K hs as (va_up Ss nx S) 14)) (fun z => [(o, aL K 1 g9)] ++ ([(x, .inr (5, [.ref tx, .ref ho, .ref ca, .ref tr, .ref hi, .ref sl, .ref sv]))] ++ hw K ho hoa S ++ cw K ca caa z ++ [(hi, .inr (1, [.ref qs, .int (nI cn), .int (nI nx)]))] ++ [(qs, aQ K 14 (fun j => some (hs j)))] ++ hwR K hs as Ss 14)) uu) t) (va_A ([(o, aL K 1 g9)] ++ ([(x, .inr (5, [.ref tx, .ref ho, .ref ca, .ref tr, .ref hi, .ref sl, .ref sv]))] ++ hw K ho hoa S ++ cw K ca caa C ++ [(hi, .inr (1, [.ref qs, .int (nI cn), .int (nI nx)]))] ++ [(qs, aQ K 14 (fun j => some (hs j)))] ++ hwR K hs as Ss 14)) sz)) xNo 4 24 (va_A ([(o, aL K 1 g9)] ++ ([(x, .inr (5, [.ref tx, .ref ho, .ref ca, .ref tr, .ref hi, .ref sl, .ref sv]))] ++ hw K ho hoa S ++ cw K ca caa C ++ [(hi, .inr (1, [.ref qs, .int (nI cn), .int (nI nx)]))] ++ [(qs, aQ K 14 (fun j => some (hs j)))] ++ hwR K hs as Ss 14)) sz) := by
  refine xl_start (cc := cL_post) (maxL := 3) (hh := [(0, 8, 11, 15)]) (by decide) rfl (Nat.le_of_ble_eq_true rfl) ?_
  intro p9 e9 s9 m9 below9 meth9 c9 H locs ls A av9 Q9 hx hb hlocks hml hts hown hK hP hD hS hA hsz hZ htab hend hl
  have hown : s9.vm.findClass RL = some m9.cls := hown
  have hl : lv_has ls 3 [(0, .ref x), (1, .ref o)] := hl
  refine lv_aload_n hx hb dL_post_0 rfl (lv_at hl 1 rfl) ?_
  refine lv_iconst (v := (0 : Int32)) hx hb dL_post_1 (by decide) ?_
  refine lv_aload_n hx hb dL_post_2 rfl (lv_at hl 0 rfl) ?_
  have hP := P_perm List.perm_append_comm hP
  have hD := D_perm List.perm_append_comm hD
  refine xl_V (As := []) (rest := [.int (0 : Int32), .ref o]) (wc := [(x, .inr (5, [.ref tx, .ref ho, .ref ca, .ref tr, .ref hi, .ref sl, .ref sv]))] ++ hw K ho hoa S ++ cw K ca caa C ++ [(hi, .inr (1, [.ref qs, .int (nI cn), .int (nI nx)]))] ++ [(qs, aQ K 14 (fun j => some (hs j)))] ++ hwR K hs as Ss 14) (wr := [(o, aL K 1 g9)]) ⟨hx, hb, hml, hown, hts⟩ (c_X5_post l hls K x tx ho ca tr hi sl sv hoa S caa C qs cn nx hs as Ss hcn hnx hz R hR0 hR0b P hP0 hP0b H.size) (cwV 0 hts gL_post_X5_post rfl rfl rfl (by decide +kernel) ⟨Nat.le_of_ble_eq_true rfl, Nat.le_of_ble_eq_true rfl⟩) hK hP hD hS hZ hA 0 5 rfl rfl rfl rfl hl.1 rfl (Nat.le_of_ble_eq_true rfl) (Nat.le_of_ble_eq_true rfl) (Nat.le_of_ble_eq_true rfl) dL_post_3 (fun E8 ce q9 u8 H locs hpx hP hD hS hce hcv hcl => ?_) (fun r8 u8 H locs hq hP hD hS => ?_)
  · have hP := P_perm List.perm_append_comm hP
    have hD := D_perm List.perm_append_comm hD
    obtain ⟨hk9, rfl⟩ := hpx
    refine xl_c1 (st := []) hown htab rfl (by decide) (by decide) hZ (hts (.classLink RL 15 "java/lang/IllegalStateException") (by decide +kernel)) hce hcv hcl ?_
    refine lv_astore_n (lv' := [(2, .ref q9), (0, .ref x), (1, .ref o)]) hx hb dL_post_11 rfl hl (by decide) rfl (fun ls hl => ?_)
    refine lv_iconst (v := (1 : Int32)) hx hb dL_post_12 (by decide) ?_
    exact hend _ _ _ _ _ _ _ (Sum.inr u8) hP hD hS (Nat.le_of_ble_eq_true rfl) (Nat.le_of_ble_eq_true rfl) (⟨hk9, rfl⟩) dL_post_13
  · have hP := P_perm List.perm_append_comm hP
    have hD := D_perm List.perm_append_comm hD
    have hP : va_P K.1 vwCl ([(o, aL K 1 g9)] ++ ([(x, .inr (5, [.ref tx, .ref ho, .ref ca, .ref tr, .ref hi, .ref sl, .ref sv]))] ++ hw K ho hoa (hPost S R P) ++ cw K ca caa u8 ++ [(hi, .inr (1, [.ref qs, .int (nI (if cn < 14 then cn + 1 else cn)), .int (nI (if nx + 1 < 14 then nx + 1 else 0))]))] ++ [(qs, aQ K 14 (fun j => some (hs j)))] ++ hwR K hs as (va_up Ss nx S) 14)) H := hP
    have hD : va_D A ([(o, aL K 1 g9)] ++ ([(x, .inr (5, [.ref tx, .ref ho, .ref ca, .ref tr, .ref hi, .ref sl, .ref sv]))] ++ hw K ho hoa (hPost S R P) ++ cw K ca caa u8 ++ [(hi, .inr (1, [.ref qs, .int (nI (if cn < 14 then cn + 1 else cn)), .int (nI (if nx + 1 < 14 then nx + 1 else 0))]))] ++ [(qs, aQ K 14 (fun j => some (hs j)))] ++ hwR K hs as (va_up Ss nx S) 14)) := hD
    refine lv_i2l (v := r8.toInt64) hx hb dL_post_6 rfl ?_
    refine xl_st hx hb hK hP hD hS 0 (f := g9) rfl 0 rfl (by decide) (by decide) ([(o, aL K 1 (vp_updL g9 0 r8.toInt64))] ++ ([(x, .inr (5, [.ref tx, .ref ho, .ref ca, .ref tr, .ref hi, .ref sl, .ref sv]))] ++ hw K ho hoa (hPost S R P) ++ cw K ca caa u8 ++ [(hi, .inr (1, [.ref qs, .int (nI (if cn < 14 then cn + 1 else cn)), .int (nI (if nx + 1 < 14 then nx + 1 else 0))]))] ++ [(qs, aQ K 14 (fun j => some (hs j)))] ++ hwR K hs as (va_up Ss nx S) 14)) rfl dL_post_7 (fun H locs hP hD hS => ?_)
    refine lv_goto (tgt := 14) hx hb dL_post_8 (by decide) ?_
    refine lv_iconst (v := (0 : Int32)) hx hb dL_post_14 (by decide) ?_
    exact hend _ _ _ _ _ _ _ (Sum.inl (r8, u8)) hP hD hS (Nat.le_of_ble_eq_true rfl) (Nat.le_of_ble_eq_true rfl) ⟨rfl, hq⟩ dL_post_15

abbrev rm_L_play : Room := { frames := 8, cells := 4, slots := 24, locals := 137 }
set_option maxHeartbeats 4000000 in
set_option maxRecDepth 100000 in
theorem c_L_play (l : Launch) (hls : l.stackTraces = false) (K : KX) (x : Nat) (tx : Nat) (ho : Nat) (ca : Nat) (tr : Nat) (hi : Nat) (sl : Nat) (sv : Nat) (hoa : Nat → Nat) (S : HV) (caa : Nat → Nat) (C : HV)  (qs : Nat) (cn : Nat) (nx : Nat) (hs : Nat → Nat) (as : Nat → Nat → Nat) (Ss : Nat → HV) (hcn : cn ≤ 14) (hnx : nx < 14) (hz : S 16 0 = 0 ∨ S 16 0 = 1) (R : Nat) (hR0 : S 10 0 = nI R) (hR0b : R ≤ 6) (P : Nat) (hP0 : S 11 0 = nI P) (hP0b : P ≤ 10) (o : Nat) (g9 : Nat → Int64) (sz : Nat) : vx_Met l yL_play wsL_play rm_L_play (va_Pc [.ref x, .ref o] (xPreS K ([(o, aL K 1 g9)] ++ ([(x, .inr (5, [.ref tx, .ref ho, .ref ca, .ref tr, .ref hi, .ref sl, .ref sv]))] ++ hw K ho hoa S ++ cw K ca caa C ++ [(hi, .inr (1, [.ref qs, .int (nI cn), .int (nI nx)]))] ++ [(qs, aQ K 14 (fun j => some (hs j)))] ++ hwR K hs as Ss 14)) sz)) (va_Qi (fun (r9 : Int32) (uu : (Int32 × HV) ⊕ Unit) => Sum.elim (fun z => r9 = 0 ∧ kPlay S = 0 ∧ z.1 = hPaid S R P) (fun _ => (kPlay S = 1 ∧ r9 = 1)) uu) (fun uu t => xPost K (va_A ([(o, aL K 1 g9)] ++ ([(x, .inr (5, [.ref tx, .ref ho, .ref ca, .ref tr, .ref hi, .ref sl, .ref sv]))] ++ hw K ho hoa S ++ cw K ca caa C ++ [(hi, .inr (1, [.ref qs, .int (nI cn), .int (nI nx)]))] ++ [(qs, aQ K 14 (fun j => some (hs j)))] ++ hwR K hs as Ss 14)) sz) (Sum.elim (fun z => [(o, aL K 1 (vp_updL g9 0 z.1.toInt64))] ++ ([(x, .inr (5, [.ref tx, .ref ho, .ref ca, .ref tr, .ref hi, .ref sl, .ref sv]))] ++ hw K ho hoa (hPlay S R P) ++ cw K ca caa z.2 ++ [(hi, .inr (1, [.ref qs, .int (nI (if cn < 14 then cn + 1 else cn)), .int (nI (if nx + 1 < 14 then nx + 1 else 0))]))] ++ [(qs, aQ K 14 (fun j => some (hs j)))] ++ hwR K hs as (va_up Ss nx S) 14)) (fun z => [(o, aL K 1 g9)] ++ ([(x, .inr (5, [.ref tx, .ref ho, .ref ca, .ref tr, .ref hi, .ref sl, .ref sv]))] ++ hw K ho hoa S ++ cw K ca caa C ++ [(hi, .inr (1, [.ref qs, .int (nI cn), .int (nI nx)]))] ++ [(qs, aQ K 14 (fun j => some (hs j)))] ++ hwR K hs as Ss 14)) uu) t) (va_A ([(o, aL K 1 g9)] ++ ([(x, .inr (5, [.ref tx, .ref ho, .ref ca, .ref tr, .ref hi, .ref sl, .ref sv]))] ++ hw K ho hoa S ++ cw K ca caa C ++ [(hi, .inr (1, [.ref qs, .int (nI cn), .int (nI nx)]))] ++ [(qs, aQ K 14 (fun j => some (hs j)))] ++ hwR K hs as Ss 14)) sz)) xNo 4 24 (va_A ([(o, aL K 1 g9)] ++ ([(x, .inr (5, [.ref tx, .ref ho, .ref ca, .ref tr, .ref hi, .ref sl, .ref sv]))] ++ hw K ho hoa S ++ cw K ca caa C ++ [(hi, .inr (1, [.ref qs, .int (nI cn), .int (nI nx)]))] ++ [(qs, aQ K 14 (fun j => some (hs j)))] ++ hwR K hs as Ss 14)) sz) := by
  refine xl_start (cc := cL_play) (maxL := 3) (hh := [(0, 8, 11, 15)]) (by decide) rfl (Nat.le_of_ble_eq_true rfl) ?_
  intro p9 e9 s9 m9 below9 meth9 c9 H locs ls A av9 Q9 hx hb hlocks hml hts hown hK hP hD hS hA hsz hZ htab hend hl
  have hown : s9.vm.findClass RL = some m9.cls := hown
  have hl : lv_has ls 3 [(0, .ref x), (1, .ref o)] := hl
  refine lv_aload_n hx hb dL_play_0 rfl (lv_at hl 1 rfl) ?_
  refine lv_iconst (v := (0 : Int32)) hx hb dL_play_1 (by decide) ?_
  refine lv_aload_n hx hb dL_play_2 rfl (lv_at hl 0 rfl) ?_
  have hP := P_perm List.perm_append_comm hP
  have hD := D_perm List.perm_append_comm hD
  refine xl_V (As := []) (rest := [.int (0 : Int32), .ref o]) (wc := [(x, .inr (5, [.ref tx, .ref ho, .ref ca, .ref tr, .ref hi, .ref sl, .ref sv]))] ++ hw K ho hoa S ++ cw K ca caa C ++ [(hi, .inr (1, [.ref qs, .int (nI cn), .int (nI nx)]))] ++ [(qs, aQ K 14 (fun j => some (hs j)))] ++ hwR K hs as Ss 14) (wr := [(o, aL K 1 g9)]) ⟨hx, hb, hml, hown, hts⟩ (c_X5_play l hls K x tx ho ca tr hi sl sv hoa S caa C qs cn nx hs as Ss hcn hnx hz R hR0 hR0b P hP0 hP0b H.size) (cwV 0 hts gL_play_X5_play rfl rfl rfl (by decide +kernel) ⟨Nat.le_of_ble_eq_true rfl, Nat.le_of_ble_eq_true rfl⟩) hK hP hD hS hZ hA 0 5 rfl rfl rfl rfl hl.1 rfl (Nat.le_of_ble_eq_true rfl) (Nat.le_of_ble_eq_true rfl) (Nat.le_of_ble_eq_true rfl) dL_play_3 (fun E8 ce q9 u8 H locs hpx hP hD hS hce hcv hcl => ?_) (fun r8 u8 H locs hq hP hD hS => ?_)
  · have hP := P_perm List.perm_append_comm hP
    have hD := D_perm List.perm_append_comm hD
    obtain ⟨hk9, rfl⟩ := hpx
    refine xl_c1 (st := []) hown htab rfl (by decide) (by decide) hZ (hts (.classLink RL 15 "java/lang/IllegalStateException") (by decide +kernel)) hce hcv hcl ?_
    refine lv_astore_n (lv' := [(2, .ref q9), (0, .ref x), (1, .ref o)]) hx hb dL_play_11 rfl hl (by decide) rfl (fun ls hl => ?_)
    refine lv_iconst (v := (1 : Int32)) hx hb dL_play_12 (by decide) ?_
    exact hend _ _ _ _ _ _ _ (Sum.inr u8) hP hD hS (Nat.le_of_ble_eq_true rfl) (Nat.le_of_ble_eq_true rfl) (⟨hk9, rfl⟩) dL_play_13
  · have hP := P_perm List.perm_append_comm hP
    have hD := D_perm List.perm_append_comm hD
    have hP : va_P K.1 vwCl ([(o, aL K 1 g9)] ++ ([(x, .inr (5, [.ref tx, .ref ho, .ref ca, .ref tr, .ref hi, .ref sl, .ref sv]))] ++ hw K ho hoa (hPlay S R P) ++ cw K ca caa u8 ++ [(hi, .inr (1, [.ref qs, .int (nI (if cn < 14 then cn + 1 else cn)), .int (nI (if nx + 1 < 14 then nx + 1 else 0))]))] ++ [(qs, aQ K 14 (fun j => some (hs j)))] ++ hwR K hs as (va_up Ss nx S) 14)) H := hP
    have hD : va_D A ([(o, aL K 1 g9)] ++ ([(x, .inr (5, [.ref tx, .ref ho, .ref ca, .ref tr, .ref hi, .ref sl, .ref sv]))] ++ hw K ho hoa (hPlay S R P) ++ cw K ca caa u8 ++ [(hi, .inr (1, [.ref qs, .int (nI (if cn < 14 then cn + 1 else cn)), .int (nI (if nx + 1 < 14 then nx + 1 else 0))]))] ++ [(qs, aQ K 14 (fun j => some (hs j)))] ++ hwR K hs as (va_up Ss nx S) 14)) := hD
    refine lv_i2l (v := r8.toInt64) hx hb dL_play_6 rfl ?_
    refine xl_st hx hb hK hP hD hS 0 (f := g9) rfl 0 rfl (by decide) (by decide) ([(o, aL K 1 (vp_updL g9 0 r8.toInt64))] ++ ([(x, .inr (5, [.ref tx, .ref ho, .ref ca, .ref tr, .ref hi, .ref sl, .ref sv]))] ++ hw K ho hoa (hPlay S R P) ++ cw K ca caa u8 ++ [(hi, .inr (1, [.ref qs, .int (nI (if cn < 14 then cn + 1 else cn)), .int (nI (if nx + 1 < 14 then nx + 1 else 0))]))] ++ [(qs, aQ K 14 (fun j => some (hs j)))] ++ hwR K hs as (va_up Ss nx S) 14)) rfl dL_play_7 (fun H locs hP hD hS => ?_)
    refine lv_goto (tgt := 14) hx hb dL_play_8 (by decide) ?_
    refine lv_iconst (v := (0 : Int32)) hx hb dL_play_14 (by decide) ?_
    exact hend _ _ _ _ _ _ _ (Sum.inl (r8, u8)) hP hD hS (Nat.le_of_ble_eq_true rfl) (Nat.le_of_ble_eq_true rfl) ⟨rfl, hq⟩ dL_play_15

abbrev rm_L_dark : Room := { frames := 8, cells := 4, slots := 24, locals := 133 }
set_option maxHeartbeats 4000000 in
set_option maxRecDepth 100000 in
theorem c_L_dark (l : Launch) (hls : l.stackTraces = false) (K : KX) (x : Nat) (tx : Nat) (ho : Nat) (ca : Nat) (tr : Nat) (hi : Nat) (sl : Nat) (sv : Nat) (n : Int32) (hoa : Nat → Nat) (S : HV)  (qs : Nat) (cn : Nat) (nx : Nat) (hs : Nat → Nat) (as : Nat → Nat → Nat) (Ss : Nat → HV) (hcn : cn ≤ 14) (hnx : nx < 14) (hz : S 16 0 = 0 ∨ S 16 0 = 1) (o : Nat) (g9 : Nat → Int64) (sz : Nat) : vx_Met l yL_dark wsL_dark rm_L_dark (va_Pc [.ref x, .int n, .ref o] (xPreS K ([(o, aL K 1 g9)] ++ ([(x, .inr (5, [.ref tx, .ref ho, .ref ca, .ref tr, .ref hi, .ref sl, .ref sv]))] ++ hw K ho hoa S ++ [(hi, .inr (1, [.ref qs, .int (nI cn), .int (nI nx)]))] ++ [(qs, aQ K 14 (fun j => some (hs j)))] ++ hwR K hs as Ss 14)) sz)) (va_Qi (fun (r9 : Int32) (uu : (Int32 × Unit) ⊕ Unit) => Sum.elim (fun z => r9 = 0 ∧ kDark n = 0 ∧ z.1 = S 12 0 + n) (fun _ => (kDark n = 1 ∧ r9 = 1)) uu) (fun uu t => xPost K (va_A ([(o, aL K 1 g9)] ++ ([(x, .inr (5, [.ref tx, .ref ho, .ref ca, .ref tr, .ref hi, .ref sl, .ref sv]))] ++ hw K ho hoa S ++ [(hi, .inr (1, [.ref qs, .int (nI cn), .int (nI nx)]))] ++ [(qs, aQ K 14 (fun j => some (hs j)))] ++ hwR K hs as Ss 14)) sz) (Sum.elim (fun z => [(o, aL K 1 (vp_updL g9 0 z.1.toInt64))] ++ ([(x, .inr (5, [.ref tx, .ref ho, .ref ca, .ref tr, .ref hi, .ref sl, .ref sv]))] ++ hw K ho hoa (hPass S (cN n)) ++ [(hi, .inr (1, [.ref qs, .int (nI (if cn < 14 then cn + 1 else cn)), .int (nI (if nx + 1 < 14 then nx + 1 else 0))]))] ++ [(qs, aQ K 14 (fun j => some (hs j)))] ++ hwR K hs as (va_up Ss nx S) 14)) (fun z => [(o, aL K 1 g9)] ++ ([(x, .inr (5, [.ref tx, .ref ho, .ref ca, .ref tr, .ref hi, .ref sl, .ref sv]))] ++ hw K ho hoa S ++ [(hi, .inr (1, [.ref qs, .int (nI cn), .int (nI nx)]))] ++ [(qs, aQ K 14 (fun j => some (hs j)))] ++ hwR K hs as Ss 14)) uu) t) (va_A ([(o, aL K 1 g9)] ++ ([(x, .inr (5, [.ref tx, .ref ho, .ref ca, .ref tr, .ref hi, .ref sl, .ref sv]))] ++ hw K ho hoa S ++ [(hi, .inr (1, [.ref qs, .int (nI cn), .int (nI nx)]))] ++ [(qs, aQ K 14 (fun j => some (hs j)))] ++ hwR K hs as Ss 14)) sz)) xNo 4 24 (va_A ([(o, aL K 1 g9)] ++ ([(x, .inr (5, [.ref tx, .ref ho, .ref ca, .ref tr, .ref hi, .ref sl, .ref sv]))] ++ hw K ho hoa S ++ [(hi, .inr (1, [.ref qs, .int (nI cn), .int (nI nx)]))] ++ [(qs, aQ K 14 (fun j => some (hs j)))] ++ hwR K hs as Ss 14)) sz) := by
  refine xl_start (cc := cL_dark) (maxL := 4) (hh := [(0, 9, 12, 13)]) (by decide) rfl (Nat.le_of_ble_eq_true rfl) ?_
  intro p9 e9 s9 m9 below9 meth9 c9 H locs ls A av9 Q9 hx hb hlocks hml hts hown hK hP hD hS hA hsz hZ htab hend hl
  have hown : s9.vm.findClass RL = some m9.cls := hown
  have hl : lv_has ls 4 [(0, .ref x), (1, .int n), (2, .ref o)] := hl
  refine lv_aload_n hx hb dL_dark_0 rfl (lv_at hl 2 rfl) ?_
  refine lv_iconst (v := (0 : Int32)) hx hb dL_dark_1 (by decide) ?_
  refine lv_aload_n hx hb dL_dark_2 rfl (lv_at hl 0 rfl) ?_
  refine lv_iload_n hx hb dL_dark_3 rfl (lv_at hl 1 rfl) ?_
  have hP := P_perm List.perm_append_comm hP
  have hD := D_perm List.perm_append_comm hD
  refine xl_V (As := [.int n]) (rest := [.int (0 : Int32), .ref o]) (wc := [(x, .inr (5, [.ref tx, .ref ho, .ref ca, .ref tr, .ref hi, .ref sl, .ref sv]))] ++ hw K ho hoa S ++ [(hi, .inr (1, [.ref qs, .int (nI cn), .int (nI nx)]))] ++ [(qs, aQ K 14 (fun j => some (hs j)))] ++ hwR K hs as Ss 14) (wr := [(o, aL K 1 g9)]) ⟨hx, hb, hml, hown, hts⟩ (c_X5_dark l hls K x tx ho ca tr hi sl sv n hoa S qs cn nx hs as Ss hcn hnx hz H.size) (cwV 1 hts gL_dark_X5_dark rfl rfl rfl (by decide +kernel) ⟨Nat.le_of_ble_eq_true rfl, Nat.le_of_ble_eq_true rfl⟩) hK hP hD hS hZ hA 0 5 rfl rfl rfl rfl hl.1 rfl (Nat.le_of_ble_eq_true rfl) (Nat.le_of_ble_eq_true rfl) (Nat.le_of_ble_eq_true rfl) dL_dark_4 (fun E8 ce q9 u8 H locs hpx hP hD hS hce hcv hcl => ?_) (fun r8 u8 H locs hq hP hD hS => ?_)
  · have hP := P_perm List.perm_append_comm hP
    have hD := D_perm List.perm_append_comm hD
    obtain ⟨hk9, rfl⟩ := hpx
    refine xl_c1 (st := []) hown htab rfl (by decide) (by decide) hZ (hts (.classLink RL 13 "java/lang/IllegalArgumentException") (by decide +kernel)) hce hcv hcl ?_
    refine lv_astore_n (lv' := [(3, .ref q9), (0, .ref x), (1, .int n), (2, .ref o)]) hx hb dL_dark_12 rfl hl (by decide) rfl (fun ls hl => ?_)
    refine lv_iconst (v := (1 : Int32)) hx hb dL_dark_13 (by decide) ?_
    exact hend _ _ _ _ _ _ _ (Sum.inr u8) hP hD hS (Nat.le_of_ble_eq_true rfl) (Nat.le_of_ble_eq_true rfl) (⟨hk9, rfl⟩) dL_dark_14
  · have hP := P_perm List.perm_append_comm hP
    have hD := D_perm List.perm_append_comm hD
    have hP : va_P K.1 vwCl ([(o, aL K 1 g9)] ++ ([(x, .inr (5, [.ref tx, .ref ho, .ref ca, .ref tr, .ref hi, .ref sl, .ref sv]))] ++ hw K ho hoa (hPass S (cN n)) ++ [(hi, .inr (1, [.ref qs, .int (nI (if cn < 14 then cn + 1 else cn)), .int (nI (if nx + 1 < 14 then nx + 1 else 0))]))] ++ [(qs, aQ K 14 (fun j => some (hs j)))] ++ hwR K hs as (va_up Ss nx S) 14)) H := hP
    have hD : va_D A ([(o, aL K 1 g9)] ++ ([(x, .inr (5, [.ref tx, .ref ho, .ref ca, .ref tr, .ref hi, .ref sl, .ref sv]))] ++ hw K ho hoa (hPass S (cN n)) ++ [(hi, .inr (1, [.ref qs, .int (nI (if cn < 14 then cn + 1 else cn)), .int (nI (if nx + 1 < 14 then nx + 1 else 0))]))] ++ [(qs, aQ K 14 (fun j => some (hs j)))] ++ hwR K hs as (va_up Ss nx S) 14)) := hD
    refine lv_i2l (v := r8.toInt64) hx hb dL_dark_7 rfl ?_
    refine xl_st hx hb hK hP hD hS 0 (f := g9) rfl 0 rfl (by decide) (by decide) ([(o, aL K 1 (vp_updL g9 0 r8.toInt64))] ++ ([(x, .inr (5, [.ref tx, .ref ho, .ref ca, .ref tr, .ref hi, .ref sl, .ref sv]))] ++ hw K ho hoa (hPass S (cN n)) ++ [(hi, .inr (1, [.ref qs, .int (nI (if cn < 14 then cn + 1 else cn)), .int (nI (if nx + 1 < 14 then nx + 1 else 0))]))] ++ [(qs, aQ K 14 (fun j => some (hs j)))] ++ hwR K hs as (va_up Ss nx S) 14)) rfl dL_dark_8 (fun H locs hP hD hS => ?_)
    refine lv_goto (tgt := 15) hx hb dL_dark_9 (by decide) ?_
    refine lv_iconst (v := (0 : Int32)) hx hb dL_dark_15 (by decide) ?_
    exact hend _ _ _ _ _ _ _ (Sum.inl (r8, u8)) hP hD hS (Nat.le_of_ble_eq_true rfl) (Nat.le_of_ble_eq_true rfl) ⟨rfl, hq⟩ dL_dark_16

abbrev rm_L_promote : Room := { frames := 8, cells := 4, slots := 24, locals := 133 }
set_option maxHeartbeats 4000000 in
set_option maxRecDepth 100000 in
theorem c_L_promote (l : Launch) (hls : l.stackTraces = false) (K : KX) (x : Nat) (tx : Nat) (ho : Nat) (ca : Nat) (tr : Nat) (hi : Nat) (sl : Nat) (sv : Nat) (r : Int32) (hoa : Nat → Nat) (S : HV)  (qs : Nat) (cn : Nat) (nx : Nat) (hs : Nat → Nat) (as : Nat → Nat → Nat) (Ss : Nat → HV) (hcn : cn ≤ 14) (hnx : nx < 14) (hz : S 16 0 = 0 ∨ S 16 0 = 1) (R : Nat) (hR0 : S 10 0 = nI R) (hR0b : R ≤ 6) (P : Nat) (hP0 : S 11 0 = nI P) (hP0b : P ≤ 10) (o : Nat) (g9 : Nat → Int64) (sz : Nat) : vx_Met l yL_promote wsL_promote rm_L_promote (va_Pc [.ref x, .int r, .ref o] (xPreS K ([(o, aL K 1 g9)] ++ ([(x, .inr (5, [.ref tx, .ref ho, .ref ca, .ref tr, .ref hi, .ref sl, .ref sv]))] ++ hw K ho hoa S ++ [(hi, .inr (1, [.ref qs, .int (nI cn), .int (nI nx)]))] ++ [(qs, aQ K 14 (fun j => some (hs j)))] ++ hwR K hs as Ss 14)) sz)) (va_Qi (fun (r9 : Int32) (uu : (Int32 × Unit) ⊕ Unit) => Sum.elim (fun z => r9 = 0 ∧ kPromote S P r = 0 ∧ z.1 = (prm S (cN r) P P).2) (fun _ => (kPromote S P r = 1 ∧ r9 = 1) ∨ (kPromote S P r = 2 ∧ r9 = 2)) uu) (fun uu t => xPost K (va_A ([(o, aL K 1 g9)] ++ ([(x, .inr (5, [.ref tx, .ref ho, .ref ca, .ref tr, .ref hi, .ref sl, .ref sv]))] ++ hw K ho hoa S ++ [(hi, .inr (1, [.ref qs, .int (nI cn), .int (nI nx)]))] ++ [(qs, aQ K 14 (fun j => some (hs j)))] ++ hwR K hs as Ss 14)) sz) (Sum.elim (fun z => [(o, aL K 1 (vp_updL g9 0 z.1.toInt64))] ++ ([(x, .inr (5, [.ref tx, .ref ho, .ref ca, .ref tr, .ref hi, .ref sl, .ref sv]))] ++ hw K ho hoa (hset S 1 (cN r) ((prm S (cN r) P P).2)) ++ [(hi, .inr (1, [.ref qs, .int (nI (if cn < 14 then cn + 1 else cn)), .int (nI (if nx + 1 < 14 then nx + 1 else 0))]))] ++ [(qs, aQ K 14 (fun j => some (hs j)))] ++ hwR K hs as (va_up Ss nx S) 14)) (fun z => [(o, aL K 1 g9)] ++ ([(x, .inr (5, [.ref tx, .ref ho, .ref ca, .ref tr, .ref hi, .ref sl, .ref sv]))] ++ hw K ho hoa S ++ [(hi, .inr (1, [.ref qs, .int (nI cn), .int (nI nx)]))] ++ [(qs, aQ K 14 (fun j => some (hs j)))] ++ hwR K hs as Ss 14)) uu) t) (va_A ([(o, aL K 1 g9)] ++ ([(x, .inr (5, [.ref tx, .ref ho, .ref ca, .ref tr, .ref hi, .ref sl, .ref sv]))] ++ hw K ho hoa S ++ [(hi, .inr (1, [.ref qs, .int (nI cn), .int (nI nx)]))] ++ [(qs, aQ K 14 (fun j => some (hs j)))] ++ hwR K hs as Ss 14)) sz)) xNo 4 24 (va_A ([(o, aL K 1 g9)] ++ ([(x, .inr (5, [.ref tx, .ref ho, .ref ca, .ref tr, .ref hi, .ref sl, .ref sv]))] ++ hw K ho hoa S ++ [(hi, .inr (1, [.ref qs, .int (nI cn), .int (nI nx)]))] ++ [(qs, aQ K 14 (fun j => some (hs j)))] ++ hwR K hs as Ss 14)) sz) := by
  refine xl_start (cc := cL_promote) (maxL := 4) (hh := [(0, 9, 12, 28), (0, 9, 15, 15)]) (by decide) rfl (Nat.le_of_ble_eq_true rfl) ?_
  intro p9 e9 s9 m9 below9 meth9 c9 H locs ls A av9 Q9 hx hb hlocks hml hts hown hK hP hD hS hA hsz hZ htab hend hl
  have hown : s9.vm.findClass RL = some m9.cls := hown
  have hl : lv_has ls 4 [(0, .ref x), (1, .int r), (2, .ref o)] := hl
  refine lv_aload_n hx hb dL_promote_0 rfl (lv_at hl 2 rfl) ?_
  refine lv_iconst (v := (0 : Int32)) hx hb dL_promote_1 (by decide) ?_
  refine lv_aload_n hx hb dL_promote_2 rfl (lv_at hl 0 rfl) ?_
  refine lv_iload_n hx hb dL_promote_3 rfl (lv_at hl 1 rfl) ?_
  have hP := P_perm List.perm_append_comm hP
  have hD := D_perm List.perm_append_comm hD
  refine xl_V (As := [.int r]) (rest := [.int (0 : Int32), .ref o]) (wc := [(x, .inr (5, [.ref tx, .ref ho, .ref ca, .ref tr, .ref hi, .ref sl, .ref sv]))] ++ hw K ho hoa S ++ [(hi, .inr (1, [.ref qs, .int (nI cn), .int (nI nx)]))] ++ [(qs, aQ K 14 (fun j => some (hs j)))] ++ hwR K hs as Ss 14) (wr := [(o, aL K 1 g9)]) ⟨hx, hb, hml, hown, hts⟩ (c_X5_promote l hls K x tx ho ca tr hi sl sv r hoa S qs cn nx hs as Ss hcn hnx hz R hR0 hR0b P hP0 hP0b H.size) (cwV 1 hts gL_promote_X5_promote rfl rfl rfl (by decide +kernel) ⟨Nat.le_of_ble_eq_true rfl, Nat.le_of_ble_eq_true rfl⟩) hK hP hD hS hZ hA 0 5 rfl rfl rfl rfl hl.1 rfl (Nat.le_of_ble_eq_true rfl) (Nat.le_of_ble_eq_true rfl) (Nat.le_of_ble_eq_true rfl) dL_promote_4 (fun E8 ce q9 u8 H locs hpx hP hD hS hce hcv hcl => ?_) (fun r8 u8 H locs hq hP hD hS => ?_)
  · have hP := P_perm List.perm_append_comm hP
    have hD := D_perm List.perm_append_comm hD
    rcases hpx with ⟨hk9, rfl⟩ | ⟨hk9, rfl⟩
    · skip
      refine xl_c1 (st := []) hown htab rfl (by decide) (by decide) hZ (hts (.classLink RL 28 "java/lang/IndexOutOfBoundsException") (by decide +kernel)) hce hcv hcl ?_
      refine lv_astore_n (lv' := [(3, .ref q9), (0, .ref x), (1, .int r), (2, .ref o)]) hx hb dL_promote_12 rfl hl (by decide) rfl (fun ls hl => ?_)
      refine lv_iconst (v := (1 : Int32)) hx hb dL_promote_13 (by decide) ?_
      exact hend _ _ _ _ _ _ _ (Sum.inr u8) hP hD hS (Nat.le_of_ble_eq_true rfl) (Nat.le_of_ble_eq_true rfl) (Or.inl ⟨hk9, rfl⟩) dL_promote_14
    · skip
      refine xl_c2 (st := []) hown htab rfl (by decide) (by decide) (by decide) (by decide) hZ (hts (.classLink RL 28 "java/lang/IndexOutOfBoundsException") (by decide +kernel)) (hts (.classLink RL 15 "java/lang/IllegalStateException") (by decide +kernel)) hce hcv hcl ?_
      refine lv_astore_n (lv' := [(3, .ref q9), (0, .ref x), (1, .int r), (2, .ref o)]) hx hb dL_promote_15 rfl hl (by decide) rfl (fun ls hl => ?_)
      refine lv_iconst (v := (2 : Int32)) hx hb dL_promote_16 (by decide) ?_
      exact hend _ _ _ _ _ _ _ (Sum.inr u8) hP hD hS (Nat.le_of_ble_eq_true rfl) (Nat.le_of_ble_eq_true rfl) (Or.inr ⟨hk9, rfl⟩) dL_promote_17
  · have hP := P_perm List.perm_append_comm hP
    have hD := D_perm List.perm_append_comm hD
    have hP : va_P K.1 vwCl ([(o, aL K 1 g9)] ++ ([(x, .inr (5, [.ref tx, .ref ho, .ref ca, .ref tr, .ref hi, .ref sl, .ref sv]))] ++ hw K ho hoa (hset S 1 (cN r) ((prm S (cN r) P P).2)) ++ [(hi, .inr (1, [.ref qs, .int (nI (if cn < 14 then cn + 1 else cn)), .int (nI (if nx + 1 < 14 then nx + 1 else 0))]))] ++ [(qs, aQ K 14 (fun j => some (hs j)))] ++ hwR K hs as (va_up Ss nx S) 14)) H := hP
    have hD : va_D A ([(o, aL K 1 g9)] ++ ([(x, .inr (5, [.ref tx, .ref ho, .ref ca, .ref tr, .ref hi, .ref sl, .ref sv]))] ++ hw K ho hoa (hset S 1 (cN r) ((prm S (cN r) P P).2)) ++ [(hi, .inr (1, [.ref qs, .int (nI (if cn < 14 then cn + 1 else cn)), .int (nI (if nx + 1 < 14 then nx + 1 else 0))]))] ++ [(qs, aQ K 14 (fun j => some (hs j)))] ++ hwR K hs as (va_up Ss nx S) 14)) := hD
    refine lv_i2l (v := r8.toInt64) hx hb dL_promote_7 rfl ?_
    refine xl_st hx hb hK hP hD hS 0 (f := g9) rfl 0 rfl (by decide) (by decide) ([(o, aL K 1 (vp_updL g9 0 r8.toInt64))] ++ ([(x, .inr (5, [.ref tx, .ref ho, .ref ca, .ref tr, .ref hi, .ref sl, .ref sv]))] ++ hw K ho hoa (hset S 1 (cN r) ((prm S (cN r) P P).2)) ++ [(hi, .inr (1, [.ref qs, .int (nI (if cn < 14 then cn + 1 else cn)), .int (nI (if nx + 1 < 14 then nx + 1 else 0))]))] ++ [(qs, aQ K 14 (fun j => some (hs j)))] ++ hwR K hs as (va_up Ss nx S) 14)) rfl dL_promote_8 (fun H locs hP hD hS => ?_)
    refine lv_goto (tgt := 18) hx hb dL_promote_9 (by decide) ?_
    refine lv_iconst (v := (0 : Int32)) hx hb dL_promote_18 (by decide) ?_
    exact hend _ _ _ _ _ _ _ (Sum.inl (r8, u8)) hP hD hS (Nat.le_of_ble_eq_true rfl) (Nat.le_of_ble_eq_true rfl) ⟨rfl, hq⟩ dL_promote_19

abbrev rm_L_set : Room := { frames := 8, cells := 4, slots := 24, locals := 135 }
set_option maxHeartbeats 4000000 in
set_option maxRecDepth 100000 in
theorem c_L_set (l : Launch) (hls : l.stackTraces = false) (K : KX) (x : Nat) (tx : Nat) (ho : Nat) (ca : Nat) (tr : Nat) (hi : Nat) (sl : Nat) (sv : Nat) (w : Int32) (v : Int32) (hoa : Nat → Nat) (S : HV)  (qs : Nat) (cn : Nat) (nx : Nat) (hs : Nat → Nat) (as : Nat → Nat → Nat) (Ss : Nat → HV) (hcn : cn ≤ 14) (hnx : nx < 14) (hz : S 16 0 = 0 ∨ S 16 0 = 1) (o : Nat) (g9 : Nat → Int64) (sz : Nat) : vx_Met l yL_set wsL_set rm_L_set (va_Pc [.ref x, .int w, .int v, .ref o] (xPreS K ([(o, aL K 1 g9)] ++ ([(x, .inr (5, [.ref tx, .ref ho, .ref ca, .ref tr, .ref hi, .ref sl, .ref sv]))] ++ hw K ho hoa S ++ [(hi, .inr (1, [.ref qs, .int (nI cn), .int (nI nx)]))] ++ [(qs, aQ K 14 (fun j => some (hs j)))] ++ hwR K hs as Ss 14)) sz)) (va_Qi (fun (r9 : Int32) (uu : (Int32 × Unit) ⊕ Unit) => Sum.elim (fun z => r9 = 0 ∧ kSet w v = 0 ∧ z.1 = S 9 (cN w)) (fun _ => (kSet w v = 1 ∧ r9 = 1)) uu) (fun uu t => xPost K (va_A ([(o, aL K 1 g9)] ++ ([(x, .inr (5, [.ref tx, .ref ho, .ref ca, .ref tr, .ref hi, .ref sl, .ref sv]))] ++ hw K ho hoa S ++ [(hi, .inr (1, [.ref qs, .int (nI cn), .int (nI nx)]))] ++ [(qs, aQ K 14 (fun j => some (hs j)))] ++ hwR K hs as Ss 14)) sz) (Sum.elim (fun z => [(o, aL K 1 (vp_updL g9 0 z.1.toInt64))] ++ ([(x, .inr (5, [.ref tx, .ref ho, .ref ca, .ref tr, .ref hi, .ref sl, .ref sv]))] ++ hw K ho hoa (hset S 9 (cN w) v) ++ [(hi, .inr (1, [.ref qs, .int (nI (if cn < 14 then cn + 1 else cn)), .int (nI (if nx + 1 < 14 then nx + 1 else 0))]))] ++ [(qs, aQ K 14 (fun j => some (hs j)))] ++ hwR K hs as (va_up Ss nx S) 14)) (fun z => [(o, aL K 1 g9)] ++ ([(x, .inr (5, [.ref tx, .ref ho, .ref ca, .ref tr, .ref hi, .ref sl, .ref sv]))] ++ hw K ho hoa S ++ [(hi, .inr (1, [.ref qs, .int (nI cn), .int (nI nx)]))] ++ [(qs, aQ K 14 (fun j => some (hs j)))] ++ hwR K hs as Ss 14)) uu) t) (va_A ([(o, aL K 1 g9)] ++ ([(x, .inr (5, [.ref tx, .ref ho, .ref ca, .ref tr, .ref hi, .ref sl, .ref sv]))] ++ hw K ho hoa S ++ [(hi, .inr (1, [.ref qs, .int (nI cn), .int (nI nx)]))] ++ [(qs, aQ K 14 (fun j => some (hs j)))] ++ hwR K hs as Ss 14)) sz)) xNo 4 24 (va_A ([(o, aL K 1 g9)] ++ ([(x, .inr (5, [.ref tx, .ref ho, .ref ca, .ref tr, .ref hi, .ref sl, .ref sv]))] ++ hw K ho hoa S ++ [(hi, .inr (1, [.ref qs, .int (nI cn), .int (nI nx)]))] ++ [(qs, aQ K 14 (fun j => some (hs j)))] ++ hwR K hs as Ss 14)) sz) := by
  refine xl_start (cc := cL_set) (maxL := 5) (hh := [(0, 10, 13, 13)]) (by decide) rfl (Nat.le_of_ble_eq_true rfl) ?_
  intro p9 e9 s9 m9 below9 meth9 c9 H locs ls A av9 Q9 hx hb hlocks hml hts hown hK hP hD hS hA hsz hZ htab hend hl
  have hown : s9.vm.findClass RL = some m9.cls := hown
  have hl : lv_has ls 5 [(0, .ref x), (1, .int w), (2, .int v), (3, .ref o)] := hl
  refine lv_aload_n hx hb dL_set_0 rfl (lv_at hl 3 rfl) ?_
  refine lv_iconst (v := (0 : Int32)) hx hb dL_set_1 (by decide) ?_
  refine lv_aload_n hx hb dL_set_2 rfl (lv_at hl 0 rfl) ?_
  refine lv_iload_n hx hb dL_set_3 rfl (lv_at hl 1 rfl) ?_
  refine lv_iload_n hx hb dL_set_4 rfl (lv_at hl 2 rfl) ?_
  have hP := P_perm List.perm_append_comm hP
  have hD := D_perm List.perm_append_comm hD
  refine xl_V (As := [.int w, .int v]) (rest := [.int (0 : Int32), .ref o]) (wc := [(x, .inr (5, [.ref tx, .ref ho, .ref ca, .ref tr, .ref hi, .ref sl, .ref sv]))] ++ hw K ho hoa S ++ [(hi, .inr (1, [.ref qs, .int (nI cn), .int (nI nx)]))] ++ [(qs, aQ K 14 (fun j => some (hs j)))] ++ hwR K hs as Ss 14) (wr := [(o, aL K 1 g9)]) ⟨hx, hb, hml, hown, hts⟩ (c_X5_set l hls K x tx ho ca tr hi sl sv w v hoa S qs cn nx hs as Ss hcn hnx hz H.size) (cwV 2 hts gL_set_X5_set rfl rfl rfl (by decide +kernel) ⟨Nat.le_of_ble_eq_true rfl, Nat.le_of_ble_eq_true rfl⟩) hK hP hD hS hZ hA 0 5 rfl rfl rfl rfl hl.1 rfl (Nat.le_of_ble_eq_true rfl) (Nat.le_of_ble_eq_true rfl) (Nat.le_of_ble_eq_true rfl) dL_set_5 (fun E8 ce q9 u8 H locs hpx hP hD hS hce hcv hcl => ?_) (fun r8 u8 H locs hq hP hD hS => ?_)
  · have hP := P_perm List.perm_append_comm hP
    have hD := D_perm List.perm_append_comm hD
    obtain ⟨hk9, rfl⟩ := hpx
    refine xl_c1 (st := []) hown htab rfl (by decide) (by decide) hZ (hts (.classLink RL 13 "java/lang/IllegalArgumentException") (by decide +kernel)) hce hcv hcl ?_
    refine lv_astore (lv' := [(4, .ref q9), (0, .ref x), (1, .int w), (2, .int v), (3, .ref o)]) hx hb dL_set_13 hl (by decide) rfl (fun ls hl => ?_)
    refine lv_iconst (v := (1 : Int32)) hx hb dL_set_15 (by decide) ?_
    exact hend _ _ _ _ _ _ _ (Sum.inr u8) hP hD hS (Nat.le_of_ble_eq_true rfl) (Nat.le_of_ble_eq_true rfl) (⟨hk9, rfl⟩) dL_set_16
  · have hP := P_perm List.perm_append_comm hP
    have hD := D_perm List.perm_append_comm hD
    have hP : va_P K.1 vwCl ([(o, aL K 1 g9)] ++ ([(x, .inr (5, [.ref tx, .ref ho, .ref ca, .ref tr, .ref hi, .ref sl, .ref sv]))] ++ hw K ho hoa (hset S 9 (cN w) v) ++ [(hi, .inr (1, [.ref qs, .int (nI (if cn < 14 then cn + 1 else cn)), .int (nI (if nx + 1 < 14 then nx + 1 else 0))]))] ++ [(qs, aQ K 14 (fun j => some (hs j)))] ++ hwR K hs as (va_up Ss nx S) 14)) H := hP
    have hD : va_D A ([(o, aL K 1 g9)] ++ ([(x, .inr (5, [.ref tx, .ref ho, .ref ca, .ref tr, .ref hi, .ref sl, .ref sv]))] ++ hw K ho hoa (hset S 9 (cN w) v) ++ [(hi, .inr (1, [.ref qs, .int (nI (if cn < 14 then cn + 1 else cn)), .int (nI (if nx + 1 < 14 then nx + 1 else 0))]))] ++ [(qs, aQ K 14 (fun j => some (hs j)))] ++ hwR K hs as (va_up Ss nx S) 14)) := hD
    refine lv_i2l (v := r8.toInt64) hx hb dL_set_8 rfl ?_
    refine xl_st hx hb hK hP hD hS 0 (f := g9) rfl 0 rfl (by decide) (by decide) ([(o, aL K 1 (vp_updL g9 0 r8.toInt64))] ++ ([(x, .inr (5, [.ref tx, .ref ho, .ref ca, .ref tr, .ref hi, .ref sl, .ref sv]))] ++ hw K ho hoa (hset S 9 (cN w) v) ++ [(hi, .inr (1, [.ref qs, .int (nI (if cn < 14 then cn + 1 else cn)), .int (nI (if nx + 1 < 14 then nx + 1 else 0))]))] ++ [(qs, aQ K 14 (fun j => some (hs j)))] ++ hwR K hs as (va_up Ss nx S) 14)) rfl dL_set_9 (fun H locs hP hD hS => ?_)
    refine lv_goto (tgt := 17) hx hb dL_set_10 (by decide) ?_
    refine lv_iconst (v := (0 : Int32)) hx hb dL_set_17 (by decide) ?_
    exact hend _ _ _ _ _ _ _ (Sum.inl (r8, u8)) hP hD hS (Nat.le_of_ble_eq_true rfl) (Nat.le_of_ble_eq_true rfl) ⟨rfl, hq⟩ dL_set_18

abbrev rm_L_undo : Room := { frames := 7, cells := 4, slots := 24, locals := 110 }
set_option maxHeartbeats 4000000 in
set_option maxRecDepth 100000 in
theorem c_L_undo (l : Launch) (hls : l.stackTraces = false) (K : KX) (x : Nat) (tx : Nat) (ho : Nat) (ca : Nat) (tr : Nat) (hi : Nat) (sl : Nat) (sv : Nat) (hoa : Nat → Nat) (S : HV)  (qs : Nat) (cn : Nat) (nx : Nat) (hs : Nat → Nat) (as : Nat → Nat → Nat) (Ss : Nat → HV) (hcn : cn ≤ 14) (hnx : nx < 14) (hzS : ∀ i, i < 14 → Ss i 16 0 = 0 ∨ Ss i 16 0 = 1) (o : Nat) (g9 : Nat → Int64) (sz : Nat) : vx_Met l yL_undo wsL_undo rm_L_undo (va_Pc [.ref x, .ref o] (xPreS K ([(o, aL K 1 g9)] ++ ([(x, .inr (5, [.ref tx, .ref ho, .ref ca, .ref tr, .ref hi, .ref sl, .ref sv]))] ++ hw K ho hoa S ++ [(hi, .inr (1, [.ref qs, .int (nI cn), .int (nI nx)]))] ++ [(qs, aQ K 14 (fun j => some (hs j)))] ++ hwR K hs as Ss 14)) sz)) (va_Qi (fun (r9 : Int32) (uu : (Int32 × Unit) ⊕ Unit) => Sum.elim (fun z => r9 = 0 ∧ kUndo cn = 0 ∧ z.1 = nI (cn - 1)) (fun _ => (kUndo cn = 1 ∧ r9 = 1)) uu) (fun uu t => xPost K (va_A ([(o, aL K 1 g9)] ++ ([(x, .inr (5, [.ref tx, .ref ho, .ref ca, .ref tr, .ref hi, .ref sl, .ref sv]))] ++ hw K ho hoa S ++ [(hi, .inr (1, [.ref qs, .int (nI cn), .int (nI nx)]))] ++ [(qs, aQ K 14 (fun j => some (hs j)))] ++ hwR K hs as Ss 14)) sz) (Sum.elim (fun z => [(o, aL K 1 (vp_updL g9 0 z.1.toInt64))] ++ ([(x, .inr (5, [.ref tx, .ref ho, .ref ca, .ref tr, .ref hi, .ref sl, .ref sv]))] ++ hw K ho hoa (Ss (if 0 < nx then nx - 1 else 13)) ++ [(hi, .inr (1, [.ref qs, .int (nI (cn - 1)), .int (nI (if 0 < nx then nx - 1 else 13))]))] ++ [(qs, aQ K 14 (fun j => some (hs j)))] ++ hwR K hs as Ss 14)) (fun z => [(o, aL K 1 g9)] ++ ([(x, .inr (5, [.ref tx, .ref ho, .ref ca, .ref tr, .ref hi, .ref sl, .ref sv]))] ++ hw K ho hoa S ++ [(hi, .inr (1, [.ref qs, .int (nI cn), .int (nI nx)]))] ++ [(qs, aQ K 14 (fun j => some (hs j)))] ++ hwR K hs as Ss 14)) uu) t) (va_A ([(o, aL K 1 g9)] ++ ([(x, .inr (5, [.ref tx, .ref ho, .ref ca, .ref tr, .ref hi, .ref sl, .ref sv]))] ++ hw K ho hoa S ++ [(hi, .inr (1, [.ref qs, .int (nI cn), .int (nI nx)]))] ++ [(qs, aQ K 14 (fun j => some (hs j)))] ++ hwR K hs as Ss 14)) sz)) xNo 4 24 (va_A ([(o, aL K 1 g9)] ++ ([(x, .inr (5, [.ref tx, .ref ho, .ref ca, .ref tr, .ref hi, .ref sl, .ref sv]))] ++ hw K ho hoa S ++ [(hi, .inr (1, [.ref qs, .int (nI cn), .int (nI nx)]))] ++ [(qs, aQ K 14 (fun j => some (hs j)))] ++ hwR K hs as Ss 14)) sz) := by
  refine xl_start (cc := cL_undo) (maxL := 3) (hh := [(0, 8, 11, 15)]) (by decide) rfl (Nat.le_of_ble_eq_true rfl) ?_
  intro p9 e9 s9 m9 below9 meth9 c9 H locs ls A av9 Q9 hx hb hlocks hml hts hown hK hP hD hS hA hsz hZ htab hend hl
  have hown : s9.vm.findClass RL = some m9.cls := hown
  have hl : lv_has ls 3 [(0, .ref x), (1, .ref o)] := hl
  refine lv_aload_n hx hb dL_undo_0 rfl (lv_at hl 1 rfl) ?_
  refine lv_iconst (v := (0 : Int32)) hx hb dL_undo_1 (by decide) ?_
  refine lv_aload_n hx hb dL_undo_2 rfl (lv_at hl 0 rfl) ?_
  have hP := P_perm List.perm_append_comm hP
  have hD := D_perm List.perm_append_comm hD
  refine xl_V (As := []) (rest := [.int (0 : Int32), .ref o]) (wc := [(x, .inr (5, [.ref tx, .ref ho, .ref ca, .ref tr, .ref hi, .ref sl, .ref sv]))] ++ hw K ho hoa S ++ [(hi, .inr (1, [.ref qs, .int (nI cn), .int (nI nx)]))] ++ [(qs, aQ K 14 (fun j => some (hs j)))] ++ hwR K hs as Ss 14) (wr := [(o, aL K 1 g9)]) ⟨hx, hb, hml, hown, hts⟩ (c_X5_undo l hls K x tx ho ca tr hi sl sv hoa S qs cn nx hs as Ss hcn hnx hzS H.size) (cwV 0 hts gL_undo_X5_undo rfl rfl rfl (by decide +kernel) ⟨Nat.le_of_ble_eq_true rfl, Nat.le_of_ble_eq_true rfl⟩) hK hP hD hS hZ hA 0 5 rfl rfl rfl rfl hl.1 rfl (Nat.le_of_ble_eq_true rfl) (Nat.le_of_ble_eq_true rfl) (Nat.le_of_ble_eq_true rfl) dL_undo_3 (fun E8 ce q9 u8 H locs hpx hP hD hS hce hcv hcl => ?_) (fun r8 u8 H locs hq hP hD hS => ?_)
  · have hP := P_perm List.perm_append_comm hP
    have hD := D_perm List.perm_append_comm hD
    obtain ⟨hk9, rfl⟩ := hpx
    refine xl_c1 (st := []) hown htab rfl (by decide) (by decide) hZ (hts (.classLink RL 15 "java/lang/IllegalStateException") (by decide +kernel)) hce hcv hcl ?_
    refine lv_astore_n (lv' := [(2, .ref q9), (0, .ref x), (1, .ref o)]) hx hb dL_undo_11 rfl hl (by decide) rfl (fun ls hl => ?_)
    refine lv_iconst (v := (1 : Int32)) hx hb dL_undo_12 (by decide) ?_
    exact hend _ _ _ _ _ _ _ (Sum.inr u8) hP hD hS (Nat.le_of_ble_eq_true rfl) (Nat.le_of_ble_eq_true rfl) (⟨hk9, rfl⟩) dL_undo_13
  · have hP := P_perm List.perm_append_comm hP
    have hD := D_perm List.perm_append_comm hD
    have hP : va_P K.1 vwCl ([(o, aL K 1 g9)] ++ ([(x, .inr (5, [.ref tx, .ref ho, .ref ca, .ref tr, .ref hi, .ref sl, .ref sv]))] ++ hw K ho hoa (Ss (if 0 < nx then nx - 1 else 13)) ++ [(hi, .inr (1, [.ref qs, .int (nI (cn - 1)), .int (nI (if 0 < nx then nx - 1 else 13))]))] ++ [(qs, aQ K 14 (fun j => some (hs j)))] ++ hwR K hs as Ss 14)) H := hP
    have hD : va_D A ([(o, aL K 1 g9)] ++ ([(x, .inr (5, [.ref tx, .ref ho, .ref ca, .ref tr, .ref hi, .ref sl, .ref sv]))] ++ hw K ho hoa (Ss (if 0 < nx then nx - 1 else 13)) ++ [(hi, .inr (1, [.ref qs, .int (nI (cn - 1)), .int (nI (if 0 < nx then nx - 1 else 13))]))] ++ [(qs, aQ K 14 (fun j => some (hs j)))] ++ hwR K hs as Ss 14)) := hD
    refine lv_i2l (v := r8.toInt64) hx hb dL_undo_6 rfl ?_
    refine xl_st hx hb hK hP hD hS 0 (f := g9) rfl 0 rfl (by decide) (by decide) ([(o, aL K 1 (vp_updL g9 0 r8.toInt64))] ++ ([(x, .inr (5, [.ref tx, .ref ho, .ref ca, .ref tr, .ref hi, .ref sl, .ref sv]))] ++ hw K ho hoa (Ss (if 0 < nx then nx - 1 else 13)) ++ [(hi, .inr (1, [.ref qs, .int (nI (cn - 1)), .int (nI (if 0 < nx then nx - 1 else 13))]))] ++ [(qs, aQ K 14 (fun j => some (hs j)))] ++ hwR K hs as Ss 14)) rfl dL_undo_7 (fun H locs hP hD hS => ?_)
    refine lv_goto (tgt := 14) hx hb dL_undo_8 (by decide) ?_
    refine lv_iconst (v := (0 : Int32)) hx hb dL_undo_14 (by decide) ?_
    exact hend _ _ _ _ _ _ _ (Sum.inl (r8, u8)) hP hD hS (Nat.le_of_ble_eq_true rfl) (Nat.le_of_ble_eq_true rfl) ⟨rfl, hq⟩ dL_undo_15

abbrev rm_L_without : Room := { frames := 8, cells := 4, slots := 24, locals := 132 }
set_option maxHeartbeats 4000000 in
set_option maxRecDepth 100000 in
theorem c_L_without (l : Launch) (hls : l.stackTraces = false) (K : KX) (x : Nat) (tx : Nat) (ho : Nat) (ca : Nat) (tr : Nat) (hi : Nat) (sl : Nat) (sv : Nat) (p : Int32) (hoa : Nat → Nat) (S : HV) (caa : Nat → Nat) (C : HV) (R : Nat) (hR0 : S 10 0 = nI R) (hR0b : R ≤ 6) (P : Nat) (hP0 : S 11 0 = nI P) (hP0b : P ≤ 10) (o : Nat) (g9 : Nat → Int64) (sz : Nat) : vx_Met l yL_without wsL_without rm_L_without (va_Pc [.ref x, .int p, .ref o] (xPreS K ([(o, aL K 1 g9)] ++ ([(x, .inr (5, [.ref tx, .ref ho, .ref ca, .ref tr, .ref hi, .ref sl, .ref sv]))] ++ hw K ho hoa S ++ cw K ca caa C)) sz)) (va_Qi (fun (r9 : Int32) (uu : (Int32 × HV) ⊕ Unit) => Sum.elim (fun z => r9 = 0 ∧ kWith S p = 0 ∧ z.1 = dpS (wFr S (frB S (cN p) P)) R P R 0) (fun _ => (kWith S p = 1 ∧ r9 = 1)) uu) (fun uu t => xPost K (va_A ([(o, aL K 1 g9)] ++ ([(x, .inr (5, [.ref tx, .ref ho, .ref ca, .ref tr, .ref hi, .ref sl, .ref sv]))] ++ hw K ho hoa S ++ cw K ca caa C)) sz) (Sum.elim (fun z => [(o, aL K 1 (vp_updL g9 0 z.1.toInt64))] ++ ([(x, .inr (5, [.ref tx, .ref ho, .ref ca, .ref tr, .ref hi, .ref sl, .ref sv]))] ++ hw K ho hoa S ++ cw K ca caa z.2)) (fun z => [(o, aL K 1 g9)] ++ ([(x, .inr (5, [.ref tx, .ref ho, .ref ca, .ref tr, .ref hi, .ref sl, .ref sv]))] ++ hw K ho hoa S ++ cw K ca caa C)) uu) t) (va_A ([(o, aL K 1 g9)] ++ ([(x, .inr (5, [.ref tx, .ref ho, .ref ca, .ref tr, .ref hi, .ref sl, .ref sv]))] ++ hw K ho hoa S ++ cw K ca caa C)) sz)) xNo 4 24 (va_A ([(o, aL K 1 g9)] ++ ([(x, .inr (5, [.ref tx, .ref ho, .ref ca, .ref tr, .ref hi, .ref sl, .ref sv]))] ++ hw K ho hoa S ++ cw K ca caa C)) sz) := by
  refine xl_start (cc := cL_without) (maxL := 4) (hh := [(0, 9, 12, 28)]) (by decide) rfl (Nat.le_of_ble_eq_true rfl) ?_
  intro p9 e9 s9 m9 below9 meth9 c9 H locs ls A av9 Q9 hx hb hlocks hml hts hown hK hP hD hS hA hsz hZ htab hend hl
  have hown : s9.vm.findClass RL = some m9.cls := hown
  have hl : lv_has ls 4 [(0, .ref x), (1, .int p), (2, .ref o)] := hl
  refine lv_aload_n hx hb dL_without_0 rfl (lv_at hl 2 rfl) ?_
  refine lv_iconst (v := (0 : Int32)) hx hb dL_without_1 (by decide) ?_
  refine lv_aload_n hx hb dL_without_2 rfl (lv_at hl 0 rfl) ?_
  refine lv_iload_n hx hb dL_without_3 rfl (lv_at hl 1 rfl) ?_
  have hP := P_perm List.perm_append_comm hP
  have hD := D_perm List.perm_append_comm hD
  refine xl_V (As := [.int p]) (rest := [.int (0 : Int32), .ref o]) (wc := [(x, .inr (5, [.ref tx, .ref ho, .ref ca, .ref tr, .ref hi, .ref sl, .ref sv]))] ++ hw K ho hoa S ++ cw K ca caa C) (wr := [(o, aL K 1 g9)]) ⟨hx, hb, hml, hown, hts⟩ (c_X5_without l hls K x tx ho ca tr hi sl sv p hoa S caa C R hR0 hR0b P hP0 hP0b H.size) (cwV 1 hts gL_without_X5_without rfl rfl rfl (by decide +kernel) ⟨Nat.le_of_ble_eq_true rfl, Nat.le_of_ble_eq_true rfl⟩) hK hP hD hS hZ hA 0 5 rfl rfl rfl rfl hl.1 rfl (Nat.le_of_ble_eq_true rfl) (Nat.le_of_ble_eq_true rfl) (Nat.le_of_ble_eq_true rfl) dL_without_4 (fun E8 ce q9 u8 H locs hpx hP hD hS hce hcv hcl => ?_) (fun r8 u8 H locs hq hP hD hS => ?_)
  · have hP := P_perm List.perm_append_comm hP
    have hD := D_perm List.perm_append_comm hD
    obtain ⟨hk9, rfl⟩ := hpx
    refine xl_c1 (st := []) hown htab rfl (by decide) (by decide) hZ (hts (.classLink RL 28 "java/lang/IndexOutOfBoundsException") (by decide +kernel)) hce hcv hcl ?_
    refine lv_astore_n (lv' := [(3, .ref q9), (0, .ref x), (1, .int p), (2, .ref o)]) hx hb dL_without_12 rfl hl (by decide) rfl (fun ls hl => ?_)
    refine lv_iconst (v := (1 : Int32)) hx hb dL_without_13 (by decide) ?_
    exact hend _ _ _ _ _ _ _ (Sum.inr u8) hP hD hS (Nat.le_of_ble_eq_true rfl) (Nat.le_of_ble_eq_true rfl) (⟨hk9, rfl⟩) dL_without_14
  · have hP := P_perm List.perm_append_comm hP
    have hD := D_perm List.perm_append_comm hD
    have hP : va_P K.1 vwCl ([(o, aL K 1 g9)] ++ ([(x, .inr (5, [.ref tx, .ref ho, .ref ca, .ref tr, .ref hi, .ref sl, .ref sv]))] ++ hw K ho hoa S ++ cw K ca caa u8)) H := hP
    have hD : va_D A ([(o, aL K 1 g9)] ++ ([(x, .inr (5, [.ref tx, .ref ho, .ref ca, .ref tr, .ref hi, .ref sl, .ref sv]))] ++ hw K ho hoa S ++ cw K ca caa u8)) := hD
    refine lv_i2l (v := r8.toInt64) hx hb dL_without_7 rfl ?_
    refine xl_st hx hb hK hP hD hS 0 (f := g9) rfl 0 rfl (by decide) (by decide) ([(o, aL K 1 (vp_updL g9 0 r8.toInt64))] ++ ([(x, .inr (5, [.ref tx, .ref ho, .ref ca, .ref tr, .ref hi, .ref sl, .ref sv]))] ++ hw K ho hoa S ++ cw K ca caa u8)) rfl dL_without_8 (fun H locs hP hD hS => ?_)
    refine lv_goto (tgt := 15) hx hb dL_without_9 (by decide) ?_
    refine lv_iconst (v := (0 : Int32)) hx hb dL_without_15 (by decide) ?_
    exact hend _ _ _ _ _ _ _ (Sum.inl (r8, u8)) hP hD hS (Nat.le_of_ble_eq_true rfl) (Nat.le_of_ble_eq_true rfl) ⟨rfl, hq⟩ dL_without_16

abbrev rm_L_coming : Room := { frames := 8, cells := 4, slots := 24, locals := 162 }
set_option maxHeartbeats 4000000 in
set_option maxRecDepth 100000 in
theorem c_L_coming (l : Launch) (hls : l.stackTraces = false) (K : KX) (x : Nat) (tx : Nat) (ho : Nat) (ca : Nat) (tr : Nat) (hi : Nat) (sl : Nat) (sv : Nat) (n : Int32) (hoa : Nat → Nat) (S : HV) (caa : Nat → Nat) (C : HV)  (th : Nat) (tha : Nat → Nat) (U : HV) (R : Nat) (hR0 : S 10 0 = nI R) (hR0b : R ≤ 6) (P : Nat) (hP0 : S 11 0 = nI P) (hP0b : P ≤ 10) (hz : S 16 0 = 0 ∨ S 16 0 = 1) (o : Nat) (g9 : Nat → Int64) (sz : Nat) : vx_Met l yL_coming wsL_coming rm_L_coming (va_Pc [.ref x, .int n, .ref o] (xPreS K ([(o, aL K 1 g9)] ++ ([(x, .inr (5, [.ref tx, .ref ho, .ref ca, .ref tr, .ref hi, .ref sl, .ref sv]))] ++ hw K ho hoa S ++ cw K ca caa C ++ [(tr, .inr (4, [.ref th]))] ++ hw K th tha U)) sz)) (va_Qi (fun (r9 : Int32) (uu : (Int32 × (HV × HV)) ⊕ Unit) => Sum.elim (fun z => r9 = 0 ∧ kComing S n = 0 ∧ z.1 = dyF S R P (cN n)) (fun _ => (kComing S n = 1 ∧ r9 = 1) ∨ (kComing S n = 2 ∧ r9 = 2)) uu) (fun uu t => xPost K (va_A ([(o, aL K 1 g9)] ++ ([(x, .inr (5, [.ref tx, .ref ho, .ref ca, .ref tr, .ref hi, .ref sl, .ref sv]))] ++ hw K ho hoa S ++ cw K ca caa C ++ [(tr, .inr (4, [.ref th]))] ++ hw K th tha U)) sz) (Sum.elim (fun z => [(o, aL K 1 (vp_updL g9 0 z.1.toInt64))] ++ ([(x, .inr (5, [.ref tx, .ref ho, .ref ca, .ref tr, .ref hi, .ref sl, .ref sv]))] ++ hw K ho hoa S ++ cw K ca caa z.2.1 ++ [(tr, .inr (4, [.ref th]))] ++ hw K th tha z.2.2)) (fun z => [(o, aL K 1 g9)] ++ ([(x, .inr (5, [.ref tx, .ref ho, .ref ca, .ref tr, .ref hi, .ref sl, .ref sv]))] ++ hw K ho hoa S ++ cw K ca caa C ++ [(tr, .inr (4, [.ref th]))] ++ hw K th tha U)) uu) t) (va_A ([(o, aL K 1 g9)] ++ ([(x, .inr (5, [.ref tx, .ref ho, .ref ca, .ref tr, .ref hi, .ref sl, .ref sv]))] ++ hw K ho hoa S ++ cw K ca caa C ++ [(tr, .inr (4, [.ref th]))] ++ hw K th tha U)) sz)) xNo 4 24 (va_A ([(o, aL K 1 g9)] ++ ([(x, .inr (5, [.ref tx, .ref ho, .ref ca, .ref tr, .ref hi, .ref sl, .ref sv]))] ++ hw K ho hoa S ++ cw K ca caa C ++ [(tr, .inr (4, [.ref th]))] ++ hw K th tha U)) sz) := by
  refine xl_start (cc := cL_coming) (maxL := 4) (hh := [(0, 9, 12, 13), (0, 9, 15, 15)]) (by decide) rfl (Nat.le_of_ble_eq_true rfl) ?_
  intro p9 e9 s9 m9 below9 meth9 c9 H locs ls A av9 Q9 hx hb hlocks hml hts hown hK hP hD hS hA hsz hZ htab hend hl
  have hown : s9.vm.findClass RL = some m9.cls := hown
  have hl : lv_has ls 4 [(0, .ref x), (1, .int n), (2, .ref o)] := hl
  refine lv_aload_n hx hb dL_coming_0 rfl (lv_at hl 2 rfl) ?_
  refine lv_iconst (v := (0 : Int32)) hx hb dL_coming_1 (by decide) ?_
  refine lv_aload_n hx hb dL_coming_2 rfl (lv_at hl 0 rfl) ?_
  refine lv_iload_n hx hb dL_coming_3 rfl (lv_at hl 1 rfl) ?_
  have hP := P_perm List.perm_append_comm hP
  have hD := D_perm List.perm_append_comm hD
  refine xl_V (As := [.int n]) (rest := [.int (0 : Int32), .ref o]) (wc := [(x, .inr (5, [.ref tx, .ref ho, .ref ca, .ref tr, .ref hi, .ref sl, .ref sv]))] ++ hw K ho hoa S ++ cw K ca caa C ++ [(tr, .inr (4, [.ref th]))] ++ hw K th tha U) (wr := [(o, aL K 1 g9)]) ⟨hx, hb, hml, hown, hts⟩ (c_X5_coming l hls K x tx ho ca tr hi sl sv n hoa S caa C th tha U R hR0 hR0b P hP0 hP0b hz H.size) (cwV 1 hts gL_coming_X5_coming rfl rfl rfl (by decide +kernel) ⟨Nat.le_of_ble_eq_true rfl, Nat.le_of_ble_eq_true rfl⟩) hK hP hD hS hZ hA 0 5 rfl rfl rfl rfl hl.1 rfl (Nat.le_of_ble_eq_true rfl) (Nat.le_of_ble_eq_true rfl) (Nat.le_of_ble_eq_true rfl) dL_coming_4 (fun E8 ce q9 u8 H locs hpx hP hD hS hce hcv hcl => ?_) (fun r8 u8 H locs hq hP hD hS => ?_)
  · have hP := P_perm List.perm_append_comm hP
    have hD := D_perm List.perm_append_comm hD
    rcases hpx with ⟨hk9, rfl⟩ | ⟨hk9, rfl⟩
    · skip
      refine xl_c1 (st := []) hown htab rfl (by decide) (by decide) hZ (hts (.classLink RL 13 "java/lang/IllegalArgumentException") (by decide +kernel)) hce hcv hcl ?_
      refine lv_astore_n (lv' := [(3, .ref q9), (0, .ref x), (1, .int n), (2, .ref o)]) hx hb dL_coming_12 rfl hl (by decide) rfl (fun ls hl => ?_)
      refine lv_iconst (v := (1 : Int32)) hx hb dL_coming_13 (by decide) ?_
      exact hend _ _ _ _ _ _ _ (Sum.inr u8) hP hD hS (Nat.le_of_ble_eq_true rfl) (Nat.le_of_ble_eq_true rfl) (Or.inl ⟨hk9, rfl⟩) dL_coming_14
    · skip
      refine xl_c2 (st := []) hown htab rfl (by decide) (by decide) (by decide) (by decide) hZ (hts (.classLink RL 13 "java/lang/IllegalArgumentException") (by decide +kernel)) (hts (.classLink RL 15 "java/lang/IllegalStateException") (by decide +kernel)) hce hcv hcl ?_
      refine lv_astore_n (lv' := [(3, .ref q9), (0, .ref x), (1, .int n), (2, .ref o)]) hx hb dL_coming_15 rfl hl (by decide) rfl (fun ls hl => ?_)
      refine lv_iconst (v := (2 : Int32)) hx hb dL_coming_16 (by decide) ?_
      exact hend _ _ _ _ _ _ _ (Sum.inr u8) hP hD hS (Nat.le_of_ble_eq_true rfl) (Nat.le_of_ble_eq_true rfl) (Or.inr ⟨hk9, rfl⟩) dL_coming_17
  · have hP := P_perm List.perm_append_comm hP
    have hD := D_perm List.perm_append_comm hD
    have hP : va_P K.1 vwCl ([(o, aL K 1 g9)] ++ ([(x, .inr (5, [.ref tx, .ref ho, .ref ca, .ref tr, .ref hi, .ref sl, .ref sv]))] ++ hw K ho hoa S ++ cw K ca caa u8.1 ++ [(tr, .inr (4, [.ref th]))] ++ hw K th tha u8.2)) H := hP
    have hD : va_D A ([(o, aL K 1 g9)] ++ ([(x, .inr (5, [.ref tx, .ref ho, .ref ca, .ref tr, .ref hi, .ref sl, .ref sv]))] ++ hw K ho hoa S ++ cw K ca caa u8.1 ++ [(tr, .inr (4, [.ref th]))] ++ hw K th tha u8.2)) := hD
    refine lv_i2l (v := r8.toInt64) hx hb dL_coming_7 rfl ?_
    refine xl_st hx hb hK hP hD hS 0 (f := g9) rfl 0 rfl (by decide) (by decide) ([(o, aL K 1 (vp_updL g9 0 r8.toInt64))] ++ ([(x, .inr (5, [.ref tx, .ref ho, .ref ca, .ref tr, .ref hi, .ref sl, .ref sv]))] ++ hw K ho hoa S ++ cw K ca caa u8.1 ++ [(tr, .inr (4, [.ref th]))] ++ hw K th tha u8.2)) rfl dL_coming_8 (fun H locs hP hD hS => ?_)
    refine lv_goto (tgt := 18) hx hb dL_coming_9 (by decide) ?_
    refine lv_iconst (v := (0 : Int32)) hx hb dL_coming_18 (by decide) ?_
    exact hend _ _ _ _ _ _ _ (Sum.inl (r8, u8)) hP hD hS (Nat.le_of_ble_eq_true rfl) (Nat.le_of_ble_eq_true rfl) ⟨rfl, hq⟩ dL_coming_19

abbrev rm_L_degreeFor : Room := { frames := 8, cells := 4, slots := 24, locals := 163 }
set_option maxHeartbeats 4000000 in
set_option maxRecDepth 100000 in
theorem c_L_degreeFor (l : Launch) (hls : l.stackTraces = false) (K : KX) (x : Nat) (tx : Nat) (ho : Nat) (ca : Nat) (tr : Nat) (hi : Nat) (sl : Nat) (sv : Nat) (p : Int32) (r : Int32) (hoa : Nat → Nat) (S : HV) (caa : Nat → Nat) (C : HV)  (th : Nat) (tha : Nat → Nat) (U : HV) (R : Nat) (hR0 : S 10 0 = nI R) (hR0b : R ≤ 6) (P : Nat) (hP0 : S 11 0 = nI P) (hP0b : P ≤ 10) (hz : S 16 0 = 0 ∨ S 16 0 = 1) (o : Nat) (g9 : Nat → Int64) (sz : Nat) : vx_Met l yL_degreeFor wsL_degreeFor rm_L_degreeFor (va_Pc [.ref x, .int p, .int r, .ref o] (xPreS K ([(o, aL K 1 g9)] ++ ([(x, .inr (5, [.ref tx, .ref ho, .ref ca, .ref tr, .ref hi, .ref sl, .ref sv]))] ++ hw K ho hoa S ++ cw K ca caa C ++ [(tr, .inr (4, [.ref th]))] ++ hw K th tha U)) sz)) (va_Qi (fun (r9 : Int32) (uu : (Int32 × (HV × HV)) ⊕ Unit) => Sum.elim (fun z => r9 = 0 ∧ kDeg S p r = 0 ∧ z.1 = fstF (ldF S R P (cN p) (cN r)) 1 9) (fun _ => (kDeg S p r = 1 ∧ r9 = 1)) uu) (fun uu t => xPost K (va_A ([(o, aL K 1 g9)] ++ ([(x, .inr (5, [.ref tx, .ref ho, .ref ca, .ref tr, .ref hi, .ref sl, .ref sv]))] ++ hw K ho hoa S ++ cw K ca caa C ++ [(tr, .inr (4, [.ref th]))] ++ hw K th tha U)) sz) (Sum.elim (fun z => [(o, aL K 1 (vp_updL g9 0 z.1.toInt64))] ++ ([(x, .inr (5, [.ref tx, .ref ho, .ref ca, .ref tr, .ref hi, .ref sl, .ref sv]))] ++ hw K ho hoa S ++ cw K ca caa z.2.1 ++ [(tr, .inr (4, [.ref th]))] ++ hw K th tha z.2.2)) (fun z => [(o, aL K 1 g9)] ++ ([(x, .inr (5, [.ref tx, .ref ho, .ref ca, .ref tr, .ref hi, .ref sl, .ref sv]))] ++ hw K ho hoa S ++ cw K ca caa C ++ [(tr, .inr (4, [.ref th]))] ++ hw K th tha U)) uu) t) (va_A ([(o, aL K 1 g9)] ++ ([(x, .inr (5, [.ref tx, .ref ho, .ref ca, .ref tr, .ref hi, .ref sl, .ref sv]))] ++ hw K ho hoa S ++ cw K ca caa C ++ [(tr, .inr (4, [.ref th]))] ++ hw K th tha U)) sz)) xNo 4 24 (va_A ([(o, aL K 1 g9)] ++ ([(x, .inr (5, [.ref tx, .ref ho, .ref ca, .ref tr, .ref hi, .ref sl, .ref sv]))] ++ hw K ho hoa S ++ cw K ca caa C ++ [(tr, .inr (4, [.ref th]))] ++ hw K th tha U)) sz) := by
  refine xl_start (cc := cL_degreeFor) (maxL := 5) (hh := [(0, 10, 13, 28)]) (by decide) rfl (Nat.le_of_ble_eq_true rfl) ?_
  intro p9 e9 s9 m9 below9 meth9 c9 H locs ls A av9 Q9 hx hb hlocks hml hts hown hK hP hD hS hA hsz hZ htab hend hl
  have hown : s9.vm.findClass RL = some m9.cls := hown
  have hl : lv_has ls 5 [(0, .ref x), (1, .int p), (2, .int r), (3, .ref o)] := hl
  refine lv_aload_n hx hb dL_degreeFor_0 rfl (lv_at hl 3 rfl) ?_
  refine lv_iconst (v := (0 : Int32)) hx hb dL_degreeFor_1 (by decide) ?_
  refine lv_aload_n hx hb dL_degreeFor_2 rfl (lv_at hl 0 rfl) ?_
  refine lv_iload_n hx hb dL_degreeFor_3 rfl (lv_at hl 1 rfl) ?_
  refine lv_iload_n hx hb dL_degreeFor_4 rfl (lv_at hl 2 rfl) ?_
  have hP := P_perm List.perm_append_comm hP
  have hD := D_perm List.perm_append_comm hD
  refine xl_V (As := [.int p, .int r]) (rest := [.int (0 : Int32), .ref o]) (wc := [(x, .inr (5, [.ref tx, .ref ho, .ref ca, .ref tr, .ref hi, .ref sl, .ref sv]))] ++ hw K ho hoa S ++ cw K ca caa C ++ [(tr, .inr (4, [.ref th]))] ++ hw K th tha U) (wr := [(o, aL K 1 g9)]) ⟨hx, hb, hml, hown, hts⟩ (c_X5_degreeFor l hls K x tx ho ca tr hi sl sv p r hoa S caa C th tha U R hR0 hR0b P hP0 hP0b hz H.size) (cwV 2 hts gL_degreeFor_X5_degreeFor rfl rfl rfl (by decide +kernel) ⟨Nat.le_of_ble_eq_true rfl, Nat.le_of_ble_eq_true rfl⟩) hK hP hD hS hZ hA 0 5 rfl rfl rfl rfl hl.1 rfl (Nat.le_of_ble_eq_true rfl) (Nat.le_of_ble_eq_true rfl) (Nat.le_of_ble_eq_true rfl) dL_degreeFor_5 (fun E8 ce q9 u8 H locs hpx hP hD hS hce hcv hcl => ?_) (fun r8 u8 H locs hq hP hD hS => ?_)
  · have hP := P_perm List.perm_append_comm hP
    have hD := D_perm List.perm_append_comm hD
    obtain ⟨hk9, rfl⟩ := hpx
    refine xl_c1 (st := []) hown htab rfl (by decide) (by decide) hZ (hts (.classLink RL 28 "java/lang/IndexOutOfBoundsException") (by decide +kernel)) hce hcv hcl ?_
    refine lv_astore (lv' := [(4, .ref q9), (0, .ref x), (1, .int p), (2, .int r), (3, .ref o)]) hx hb dL_degreeFor_13 hl (by decide) rfl (fun ls hl => ?_)
    refine lv_iconst (v := (1 : Int32)) hx hb dL_degreeFor_15 (by decide) ?_
    exact hend _ _ _ _ _ _ _ (Sum.inr u8) hP hD hS (Nat.le_of_ble_eq_true rfl) (Nat.le_of_ble_eq_true rfl) (⟨hk9, rfl⟩) dL_degreeFor_16
  · have hP := P_perm List.perm_append_comm hP
    have hD := D_perm List.perm_append_comm hD
    have hP : va_P K.1 vwCl ([(o, aL K 1 g9)] ++ ([(x, .inr (5, [.ref tx, .ref ho, .ref ca, .ref tr, .ref hi, .ref sl, .ref sv]))] ++ hw K ho hoa S ++ cw K ca caa u8.1 ++ [(tr, .inr (4, [.ref th]))] ++ hw K th tha u8.2)) H := hP
    have hD : va_D A ([(o, aL K 1 g9)] ++ ([(x, .inr (5, [.ref tx, .ref ho, .ref ca, .ref tr, .ref hi, .ref sl, .ref sv]))] ++ hw K ho hoa S ++ cw K ca caa u8.1 ++ [(tr, .inr (4, [.ref th]))] ++ hw K th tha u8.2)) := hD
    refine lv_i2l (v := r8.toInt64) hx hb dL_degreeFor_8 rfl ?_
    refine xl_st hx hb hK hP hD hS 0 (f := g9) rfl 0 rfl (by decide) (by decide) ([(o, aL K 1 (vp_updL g9 0 r8.toInt64))] ++ ([(x, .inr (5, [.ref tx, .ref ho, .ref ca, .ref tr, .ref hi, .ref sl, .ref sv]))] ++ hw K ho hoa S ++ cw K ca caa u8.1 ++ [(tr, .inr (4, [.ref th]))] ++ hw K th tha u8.2)) rfl dL_degreeFor_9 (fun H locs hP hD hS => ?_)
    refine lv_goto (tgt := 17) hx hb dL_degreeFor_10 (by decide) ?_
    refine lv_iconst (v := (0 : Int32)) hx hb dL_degreeFor_17 (by decide) ?_
    exact hend _ _ _ _ _ _ _ (Sum.inl (r8, u8)) hP hD hS (Nat.le_of_ble_eq_true rfl) (Nat.le_of_ble_eq_true rfl) ⟨rfl, hq⟩ dL_degreeFor_18

abbrev rm_L_runScript : Room := { frames := 8, cells := 4, slots := 24, locals := 190 }
set_option maxHeartbeats 4000000 in
set_option maxRecDepth 100000 in
theorem c_L_runScript (l : Launch) (hls : l.stackTraces = false) (K : KX) (x : Nat) (tx : Nat) (ho : Nat) (ca : Nat) (tr : Nat) (hi : Nat) (sl : Nat) (sv : Nat) (n : Int32) (x9 : Int64) (hoa : Nat → Nat) (S : HV) (caa : Nat → Nat) (C : HV)  (th : Nat) (tha : Nat → Nat) (U : HV) (R : Nat) (hR0 : S 10 0 = nI R) (hR0b : R ≤ 6) (P : Nat) (hP0 : S 11 0 = nI P) (hP0b : P ≤ 10) (hz : S 16 0 = 0 ∨ S 16 0 = 1) (o : Nat) (g9 : Nat → Int64) (sz : Nat) : vx_Met l yL_runScript wsL_runScript rm_L_runScript (va_Pc [.ref x, .int n, .long x9, .ref o] (xPreS K ([(o, aL K 1 g9)] ++ ([(x, .inr (5, [.ref tx, .ref ho, .ref ca, .ref tr, .ref hi, .ref sl, .ref sv]))] ++ hw K ho hoa S ++ cw K ca caa C ++ [(tr, .inr (4, [.ref th]))] ++ hw K th tha U)) sz)) (va_Qi (fun (r9 : Int32) (uu : (Int32 × (HV × HV)) ⊕ Unit) => Sum.elim (fun z => r9 = 0 ∧ kRun n x9 = 0 ∧ z.1 = fstF (ffF S R P (cN n) (sN x9)) 0 (cN n)) (fun _ => (kRun n x9 = 1 ∧ r9 = 1)) uu) (fun uu t => xPost K (va_A ([(o, aL K 1 g9)] ++ ([(x, .inr (5, [.ref tx, .ref ho, .ref ca, .ref tr, .ref hi, .ref sl, .ref sv]))] ++ hw K ho hoa S ++ cw K ca caa C ++ [(tr, .inr (4, [.ref th]))] ++ hw K th tha U)) sz) (Sum.elim (fun z => [(o, aL K 1 (vp_updL g9 0 z.1.toInt64))] ++ ([(x, .inr (5, [.ref tx, .ref ho, .ref ca, .ref tr, .ref hi, .ref sl, .ref sv]))] ++ hw K ho hoa S ++ cw K ca caa z.2.1 ++ [(tr, .inr (4, [.ref th]))] ++ hw K th tha z.2.2)) (fun z => [(o, aL K 1 g9)] ++ ([(x, .inr (5, [.ref tx, .ref ho, .ref ca, .ref tr, .ref hi, .ref sl, .ref sv]))] ++ hw K ho hoa S ++ cw K ca caa C ++ [(tr, .inr (4, [.ref th]))] ++ hw K th tha U)) uu) t) (va_A ([(o, aL K 1 g9)] ++ ([(x, .inr (5, [.ref tx, .ref ho, .ref ca, .ref tr, .ref hi, .ref sl, .ref sv]))] ++ hw K ho hoa S ++ cw K ca caa C ++ [(tr, .inr (4, [.ref th]))] ++ hw K th tha U)) sz)) xNo 4 24 (va_A ([(o, aL K 1 g9)] ++ ([(x, .inr (5, [.ref tx, .ref ho, .ref ca, .ref tr, .ref hi, .ref sl, .ref sv]))] ++ hw K ho hoa S ++ cw K ca caa C ++ [(tr, .inr (4, [.ref th]))] ++ hw K th tha U)) sz) := by
  refine xl_start (cc := cL_runScript) (maxL := 6) (hh := [(0, 11, 14, 13)]) (by decide) rfl (Nat.le_of_ble_eq_true rfl) ?_
  intro p9 e9 s9 m9 below9 meth9 c9 H locs ls A av9 Q9 hx hb hlocks hml hts hown hK hP hD hS hA hsz hZ htab hend hl
  have hown : s9.vm.findClass RL = some m9.cls := hown
  have hl : lv_has ls 6 [(0, .ref x), (1, .int n), (2, .long x9), (4, .ref o)] := hl
  refine lv_aload hx hb dL_runScript_0 (lv_at hl 3 rfl) ?_
  refine lv_iconst (v := (0 : Int32)) hx hb dL_runScript_2 (by decide) ?_
  refine lv_aload_n hx hb dL_runScript_3 rfl (lv_at hl 0 rfl) ?_
  refine lv_iload_n hx hb dL_runScript_4 rfl (lv_at hl 1 rfl) ?_
  refine lv_lload_n hx hb dL_runScript_5 rfl (lv_at hl 2 rfl) ?_
  have hP := P_perm List.perm_append_comm hP
  have hD := D_perm List.perm_append_comm hD
  refine xl_V (As := [.int n, .long x9]) (rest := [.int (0 : Int32), .ref o]) (wc := [(x, .inr (5, [.ref tx, .ref ho, .ref ca, .ref tr, .ref hi, .ref sl, .ref sv]))] ++ hw K ho hoa S ++ cw K ca caa C ++ [(tr, .inr (4, [.ref th]))] ++ hw K th tha U) (wr := [(o, aL K 1 g9)]) ⟨hx, hb, hml, hown, hts⟩ (c_X5_runScript l hls K x tx ho ca tr hi sl sv n x9 hoa S caa C th tha U R hR0 hR0b P hP0 hP0b hz H.size) (cwV 2 hts gL_runScript_X5_runScript rfl rfl rfl (by decide +kernel) ⟨Nat.le_of_ble_eq_true rfl, Nat.le_of_ble_eq_true rfl⟩) hK hP hD hS hZ hA 0 5 rfl rfl rfl rfl hl.1 rfl (Nat.le_of_ble_eq_true rfl) (Nat.le_of_ble_eq_true rfl) (Nat.le_of_ble_eq_true rfl) dL_runScript_6 (fun E8 ce q9 u8 H locs hpx hP hD hS hce hcv hcl => ?_) (fun r8 u8 H locs hq hP hD hS => ?_)
  · have hP := P_perm List.perm_append_comm hP
    have hD := D_perm List.perm_append_comm hD
    obtain ⟨hk9, rfl⟩ := hpx
    refine xl_c1 (st := []) hown htab rfl (by decide) (by decide) hZ (hts (.classLink RL 13 "java/lang/IllegalArgumentException") (by decide +kernel)) hce hcv hcl ?_
    refine lv_astore (lv' := [(5, .ref q9), (0, .ref x), (1, .int n), (2, .long x9), (4, .ref o)]) hx hb dL_runScript_14 hl (by decide) rfl (fun ls hl => ?_)
    refine lv_iconst (v := (1 : Int32)) hx hb dL_runScript_16 (by decide) ?_
    exact hend _ _ _ _ _ _ _ (Sum.inr u8) hP hD hS (Nat.le_of_ble_eq_true rfl) (Nat.le_of_ble_eq_true rfl) (⟨hk9, rfl⟩) dL_runScript_17
  · have hP := P_perm List.perm_append_comm hP
    have hD := D_perm List.perm_append_comm hD
    have hP : va_P K.1 vwCl ([(o, aL K 1 g9)] ++ ([(x, .inr (5, [.ref tx, .ref ho, .ref ca, .ref tr, .ref hi, .ref sl, .ref sv]))] ++ hw K ho hoa S ++ cw K ca caa u8.1 ++ [(tr, .inr (4, [.ref th]))] ++ hw K th tha u8.2)) H := hP
    have hD : va_D A ([(o, aL K 1 g9)] ++ ([(x, .inr (5, [.ref tx, .ref ho, .ref ca, .ref tr, .ref hi, .ref sl, .ref sv]))] ++ hw K ho hoa S ++ cw K ca caa u8.1 ++ [(tr, .inr (4, [.ref th]))] ++ hw K th tha u8.2)) := hD
    refine lv_i2l (v := r8.toInt64) hx hb dL_runScript_9 rfl ?_
    refine xl_st hx hb hK hP hD hS 0 (f := g9) rfl 0 rfl (by decide) (by decide) ([(o, aL K 1 (vp_updL g9 0 r8.toInt64))] ++ ([(x, .inr (5, [.ref tx, .ref ho, .ref ca, .ref tr, .ref hi, .ref sl, .ref sv]))] ++ hw K ho hoa S ++ cw K ca caa u8.1 ++ [(tr, .inr (4, [.ref th]))] ++ hw K th tha u8.2)) rfl dL_runScript_10 (fun H locs hP hD hS => ?_)
    refine lv_goto (tgt := 18) hx hb dL_runScript_11 (by decide) ?_
    refine lv_iconst (v := (0 : Int32)) hx hb dL_runScript_18 (by decide) ?_
    exact hend _ _ _ _ _ _ _ (Sum.inl (r8, u8)) hP hD hS (Nat.le_of_ble_eq_true rfl) (Nat.le_of_ble_eq_true rfl) ⟨rfl, hq⟩ dL_runScript_19

abbrev rm_L_simulate : Room := { frames := 8, cells := 4, slots := 24, locals := 193 }
set_option maxHeartbeats 4000000 in
set_option maxRecDepth 100000 in
theorem c_L_simulate (l : Launch) (hls : l.stackTraces = false) (K : KX) (x : Nat) (tx : Nat) (ho : Nat) (ca : Nat) (tr : Nat) (hi : Nat) (sl : Nat) (sv : Nat) (x9 : Int64) (m : Int32) (hoa : Nat → Nat) (S : HV) (caa : Nat → Nat) (C : HV)  (th : Nat) (tha : Nat → Nat) (U : HV) (R : Nat) (hR0 : S 10 0 = nI R) (hR0b : R ≤ 6) (P : Nat) (hP0 : S 11 0 = nI P) (hP0b : P ≤ 10) (hz : S 16 0 = 0 ∨ S 16 0 = 1) (o : Nat) (g9 : Nat → Int64) (sz : Nat) : vx_Met l yL_simulate wsL_simulate rm_L_simulate (va_Pc [.ref x, .long x9, .int m, .ref o] (xPreS K ([(o, aL K 1 g9)] ++ ([(x, .inr (5, [.ref tx, .ref ho, .ref ca, .ref tr, .ref hi, .ref sl, .ref sv]))] ++ hw K ho hoa S ++ cw K ca caa C ++ [(tr, .inr (4, [.ref th]))] ++ hw K th tha U)) sz)) (va_Qi (fun (r9 : Int32) (uu : (Int32 × (HV × HV)) ⊕ Unit) => Sum.elim (fun z => r9 = 0 ∧ kSim m = 0 ∧ z.1 = simR S R P x9 (cN m)) (fun _ => (kSim m = 1 ∧ r9 = 1)) uu) (fun uu t => xPost K (va_A ([(o, aL K 1 g9)] ++ ([(x, .inr (5, [.ref tx, .ref ho, .ref ca, .ref tr, .ref hi, .ref sl, .ref sv]))] ++ hw K ho hoa S ++ cw K ca caa C ++ [(tr, .inr (4, [.ref th]))] ++ hw K th tha U)) sz) (Sum.elim (fun z => [(o, aL K 1 (vp_updL g9 0 z.1.toInt64))] ++ ([(x, .inr (5, [.ref tx, .ref ho, .ref ca, .ref tr, .ref hi, .ref sl, .ref sv]))] ++ hw K ho hoa S ++ cw K ca caa z.2.1 ++ [(tr, .inr (4, [.ref th]))] ++ hw K th tha z.2.2)) (fun z => [(o, aL K 1 g9)] ++ ([(x, .inr (5, [.ref tx, .ref ho, .ref ca, .ref tr, .ref hi, .ref sl, .ref sv]))] ++ hw K ho hoa S ++ cw K ca caa C ++ [(tr, .inr (4, [.ref th]))] ++ hw K th tha U)) uu) t) (va_A ([(o, aL K 1 g9)] ++ ([(x, .inr (5, [.ref tx, .ref ho, .ref ca, .ref tr, .ref hi, .ref sl, .ref sv]))] ++ hw K ho hoa S ++ cw K ca caa C ++ [(tr, .inr (4, [.ref th]))] ++ hw K th tha U)) sz)) xNo 4 24 (va_A ([(o, aL K 1 g9)] ++ ([(x, .inr (5, [.ref tx, .ref ho, .ref ca, .ref tr, .ref hi, .ref sl, .ref sv]))] ++ hw K ho hoa S ++ cw K ca caa C ++ [(tr, .inr (4, [.ref th]))] ++ hw K th tha U)) sz) := by
  refine xl_start (cc := cL_simulate) (maxL := 6) (hh := [(0, 11, 14, 13)]) (by decide) rfl (Nat.le_of_ble_eq_true rfl) ?_
  intro p9 e9 s9 m9 below9 meth9 c9 H locs ls A av9 Q9 hx hb hlocks hml hts hown hK hP hD hS hA hsz hZ htab hend hl
  have hown : s9.vm.findClass RL = some m9.cls := hown
  have hl : lv_has ls 6 [(0, .ref x), (1, .long x9), (3, .int m), (4, .ref o)] := hl
  refine lv_aload hx hb dL_simulate_0 (lv_at hl 3 rfl) ?_
  refine lv_iconst (v := (0 : Int32)) hx hb dL_simulate_2 (by decide) ?_
  refine lv_aload_n hx hb dL_simulate_3 rfl (lv_at hl 0 rfl) ?_
  refine lv_lload_n hx hb dL_simulate_4 rfl (lv_at hl 1 rfl) ?_
  refine lv_iload_n hx hb dL_simulate_5 rfl (lv_at hl 2 rfl) ?_
  have hP := P_perm List.perm_append_comm hP
  have hD := D_perm List.perm_append_comm hD
  refine xl_V (As := [.long x9, .int m]) (rest := [.int (0 : Int32), .ref o]) (wc := [(x, .inr (5, [.ref tx, .ref ho, .ref ca, .ref tr, .ref hi, .ref sl, .ref sv]))] ++ hw K ho hoa S ++ cw K ca caa C ++ [(tr, .inr (4, [.ref th]))] ++ hw K th tha U) (wr := [(o, aL K 1 g9)]) ⟨hx, hb, hml, hown, hts⟩ (c_X5_simulate l hls K x tx ho ca tr hi sl sv x9 m hoa S caa C th tha U R hR0 hR0b P hP0 hP0b hz H.size) (cwV 2 hts gL_simulate_X5_simulate rfl rfl rfl (by decide +kernel) ⟨Nat.le_of_ble_eq_true rfl, Nat.le_of_ble_eq_true rfl⟩) hK hP hD hS hZ hA 0 5 rfl rfl rfl rfl hl.1 rfl (Nat.le_of_ble_eq_true rfl) (Nat.le_of_ble_eq_true rfl) (Nat.le_of_ble_eq_true rfl) dL_simulate_6 (fun E8 ce q9 u8 H locs hpx hP hD hS hce hcv hcl => ?_) (fun r8 u8 H locs hq hP hD hS => ?_)
  · have hP := P_perm List.perm_append_comm hP
    have hD := D_perm List.perm_append_comm hD
    obtain ⟨hk9, rfl⟩ := hpx
    refine xl_c1 (st := []) hown htab rfl (by decide) (by decide) hZ (hts (.classLink RL 13 "java/lang/IllegalArgumentException") (by decide +kernel)) hce hcv hcl ?_
    refine lv_astore (lv' := [(5, .ref q9), (0, .ref x), (1, .long x9), (3, .int m), (4, .ref o)]) hx hb dL_simulate_14 hl (by decide) rfl (fun ls hl => ?_)
    refine lv_iconst (v := (1 : Int32)) hx hb dL_simulate_16 (by decide) ?_
    exact hend _ _ _ _ _ _ _ (Sum.inr u8) hP hD hS (Nat.le_of_ble_eq_true rfl) (Nat.le_of_ble_eq_true rfl) (⟨hk9, rfl⟩) dL_simulate_17
  · have hP := P_perm List.perm_append_comm hP
    have hD := D_perm List.perm_append_comm hD
    have hP : va_P K.1 vwCl ([(o, aL K 1 g9)] ++ ([(x, .inr (5, [.ref tx, .ref ho, .ref ca, .ref tr, .ref hi, .ref sl, .ref sv]))] ++ hw K ho hoa S ++ cw K ca caa u8.1 ++ [(tr, .inr (4, [.ref th]))] ++ hw K th tha u8.2)) H := hP
    have hD : va_D A ([(o, aL K 1 g9)] ++ ([(x, .inr (5, [.ref tx, .ref ho, .ref ca, .ref tr, .ref hi, .ref sl, .ref sv]))] ++ hw K ho hoa S ++ cw K ca caa u8.1 ++ [(tr, .inr (4, [.ref th]))] ++ hw K th tha u8.2)) := hD
    refine lv_i2l (v := r8.toInt64) hx hb dL_simulate_9 rfl ?_
    refine xl_st hx hb hK hP hD hS 0 (f := g9) rfl 0 rfl (by decide) (by decide) ([(o, aL K 1 (vp_updL g9 0 r8.toInt64))] ++ ([(x, .inr (5, [.ref tx, .ref ho, .ref ca, .ref tr, .ref hi, .ref sl, .ref sv]))] ++ hw K ho hoa S ++ cw K ca caa u8.1 ++ [(tr, .inr (4, [.ref th]))] ++ hw K th tha u8.2)) rfl dL_simulate_10 (fun H locs hP hD hS => ?_)
    refine lv_goto (tgt := 18) hx hb dL_simulate_11 (by decide) ?_
    refine lv_iconst (v := (0 : Int32)) hx hb dL_simulate_18 (by decide) ?_
    exact hend _ _ _ _ _ _ _ (Sum.inl (r8, u8)) hP hD hS (Nat.le_of_ble_eq_true rfl) (Nat.le_of_ble_eq_true rfl) ⟨rfl, hq⟩ dL_simulate_19

abbrev rm_L_save : Room := { frames := 8, cells := 4, slots := 24, locals := 131 }
set_option maxHeartbeats 4000000 in
set_option maxRecDepth 100000 in
theorem c_L_save (l : Launch) (hls : l.stackTraces = false) (K : KX) (x : Nat) (tx : Nat) (ho : Nat) (ca : Nat) (tr : Nat) (hi : Nat) (sl : Nat) (sv : Nat) (v : Int32) (hoa : Nat → Nat) (S : HV) (sh : Nat → Nat) (V : Nat → Int32) (sa : Nat → Nat → Nat) (Sl : Nat → HV) (hz : S 16 0 = 0 ∨ S 16 0 = 1) (o : Nat) (g9 : Nat → Int64) (sz : Nat) : vx_Met l yL_save wsL_save rm_L_save (va_Pc [.ref x, .int v, .ref o] (xPreS K ([(o, aL K 1 g9)] ++ ([(x, .inr (5, [.ref tx, .ref ho, .ref ca, .ref tr, .ref hi, .ref sl, .ref sv]))] ++ hw K ho hoa S ++ [(sl, aQ K 2 (fun j => some (sh j)))] ++ [(sv, aZ K 2 V)] ++ hwR K sh sa Sl 2)) sz)) (va_Qi (fun (r9 : Int32) (uu : (Int32 × Unit) ⊕ Unit) => Sum.elim (fun z => r9 = 0 ∧ kSlot v = 0 ∧ z.1 = S 12 0) (fun _ => (kSlot v = 1 ∧ r9 = 1)) uu) (fun uu t => xPost K (va_A ([(o, aL K 1 g9)] ++ ([(x, .inr (5, [.ref tx, .ref ho, .ref ca, .ref tr, .ref hi, .ref sl, .ref sv]))] ++ hw K ho hoa S ++ [(sl, aQ K 2 (fun j => some (sh j)))] ++ [(sv, aZ K 2 V)] ++ hwR K sh sa Sl 2)) sz) (Sum.elim (fun z => [(o, aL K 1 (vp_updL g9 0 z.1.toInt64))] ++ ([(x, .inr (5, [.ref tx, .ref ho, .ref ca, .ref tr, .ref hi, .ref sl, .ref sv]))] ++ hw K ho hoa S ++ [(sl, aQ K 2 (fun j => some (sh j)))] ++ [(sv, aZ K 2 (upd V (cN v) 1))] ++ hwR K sh sa (va_up Sl (cN v) S) 2)) (fun z => [(o, aL K 1 g9)] ++ ([(x, .inr (5, [.ref tx, .ref ho, .ref ca, .ref tr, .ref hi, .ref sl, .ref sv]))] ++ hw K ho hoa S ++ [(sl, aQ K 2 (fun j => some (sh j)))] ++ [(sv, aZ K 2 V)] ++ hwR K sh sa Sl 2)) uu) t) (va_A ([(o, aL K 1 g9)] ++ ([(x, .inr (5, [.ref tx, .ref ho, .ref ca, .ref tr, .ref hi, .ref sl, .ref sv]))] ++ hw K ho hoa S ++ [(sl, aQ K 2 (fun j => some (sh j)))] ++ [(sv, aZ K 2 V)] ++ hwR K sh sa Sl 2)) sz)) xNo 4 24 (va_A ([(o, aL K 1 g9)] ++ ([(x, .inr (5, [.ref tx, .ref ho, .ref ca, .ref tr, .ref hi, .ref sl, .ref sv]))] ++ hw K ho hoa S ++ [(sl, aQ K 2 (fun j => some (sh j)))] ++ [(sv, aZ K 2 V)] ++ hwR K sh sa Sl 2)) sz) := by
  refine xl_start (cc := cL_save) (maxL := 4) (hh := [(0, 9, 12, 28)]) (by decide) rfl (Nat.le_of_ble_eq_true rfl) ?_
  intro p9 e9 s9 m9 below9 meth9 c9 H locs ls A av9 Q9 hx hb hlocks hml hts hown hK hP hD hS hA hsz hZ htab hend hl
  have hown : s9.vm.findClass RL = some m9.cls := hown
  have hl : lv_has ls 4 [(0, .ref x), (1, .int v), (2, .ref o)] := hl
  refine lv_aload_n hx hb dL_save_0 rfl (lv_at hl 2 rfl) ?_
  refine lv_iconst (v := (0 : Int32)) hx hb dL_save_1 (by decide) ?_
  refine lv_aload_n hx hb dL_save_2 rfl (lv_at hl 0 rfl) ?_
  refine lv_iload_n hx hb dL_save_3 rfl (lv_at hl 1 rfl) ?_
  have hP := P_perm List.perm_append_comm hP
  have hD := D_perm List.perm_append_comm hD
  refine xl_V (As := [.int v]) (rest := [.int (0 : Int32), .ref o]) (wc := [(x, .inr (5, [.ref tx, .ref ho, .ref ca, .ref tr, .ref hi, .ref sl, .ref sv]))] ++ hw K ho hoa S ++ [(sl, aQ K 2 (fun j => some (sh j)))] ++ [(sv, aZ K 2 V)] ++ hwR K sh sa Sl 2) (wr := [(o, aL K 1 g9)]) ⟨hx, hb, hml, hown, hts⟩ (c_X5_save l hls K x tx ho ca tr hi sl sv v hoa S sh V sa Sl hz H.size) (cwV 1 hts gL_save_X5_save rfl rfl rfl (by decide +kernel) ⟨Nat.le_of_ble_eq_true rfl, Nat.le_of_ble_eq_true rfl⟩) hK hP hD hS hZ hA 0 5 rfl rfl rfl rfl hl.1 rfl (Nat.le_of_ble_eq_true rfl) (Nat.le_of_ble_eq_true rfl) (Nat.le_of_ble_eq_true rfl) dL_save_4 (fun E8 ce q9 u8 H locs hpx hP hD hS hce hcv hcl => ?_) (fun r8 u8 H locs hq hP hD hS => ?_)
  · have hP := P_perm List.perm_append_comm hP
    have hD := D_perm List.perm_append_comm hD
    obtain ⟨hk9, rfl⟩ := hpx
    refine xl_c1 (st := []) hown htab rfl (by decide) (by decide) hZ (hts (.classLink RL 28 "java/lang/IndexOutOfBoundsException") (by decide +kernel)) hce hcv hcl ?_
    refine lv_astore_n (lv' := [(3, .ref q9), (0, .ref x), (1, .int v), (2, .ref o)]) hx hb dL_save_12 rfl hl (by decide) rfl (fun ls hl => ?_)
    refine lv_iconst (v := (1 : Int32)) hx hb dL_save_13 (by decide) ?_
    exact hend _ _ _ _ _ _ _ (Sum.inr u8) hP hD hS (Nat.le_of_ble_eq_true rfl) (Nat.le_of_ble_eq_true rfl) (⟨hk9, rfl⟩) dL_save_14
  · have hP := P_perm List.perm_append_comm hP
    have hD := D_perm List.perm_append_comm hD
    have hP : va_P K.1 vwCl ([(o, aL K 1 g9)] ++ ([(x, .inr (5, [.ref tx, .ref ho, .ref ca, .ref tr, .ref hi, .ref sl, .ref sv]))] ++ hw K ho hoa S ++ [(sl, aQ K 2 (fun j => some (sh j)))] ++ [(sv, aZ K 2 (upd V (cN v) 1))] ++ hwR K sh sa (va_up Sl (cN v) S) 2)) H := hP
    have hD : va_D A ([(o, aL K 1 g9)] ++ ([(x, .inr (5, [.ref tx, .ref ho, .ref ca, .ref tr, .ref hi, .ref sl, .ref sv]))] ++ hw K ho hoa S ++ [(sl, aQ K 2 (fun j => some (sh j)))] ++ [(sv, aZ K 2 (upd V (cN v) 1))] ++ hwR K sh sa (va_up Sl (cN v) S) 2)) := hD
    refine lv_i2l (v := r8.toInt64) hx hb dL_save_7 rfl ?_
    refine xl_st hx hb hK hP hD hS 0 (f := g9) rfl 0 rfl (by decide) (by decide) ([(o, aL K 1 (vp_updL g9 0 r8.toInt64))] ++ ([(x, .inr (5, [.ref tx, .ref ho, .ref ca, .ref tr, .ref hi, .ref sl, .ref sv]))] ++ hw K ho hoa S ++ [(sl, aQ K 2 (fun j => some (sh j)))] ++ [(sv, aZ K 2 (upd V (cN v) 1))] ++ hwR K sh sa (va_up Sl (cN v) S) 2)) rfl dL_save_8 (fun H locs hP hD hS => ?_)
    refine lv_goto (tgt := 15) hx hb dL_save_9 (by decide) ?_
    refine lv_iconst (v := (0 : Int32)) hx hb dL_save_15 (by decide) ?_
    exact hend _ _ _ _ _ _ _ (Sum.inl (r8, u8)) hP hD hS (Nat.le_of_ble_eq_true rfl) (Nat.le_of_ble_eq_true rfl) ⟨rfl, hq⟩ dL_save_16

abbrev rm_L_restore : Room := { frames := 8, cells := 4, slots := 24, locals := 131 }
set_option maxHeartbeats 4000000 in
set_option maxRecDepth 100000 in
theorem c_L_restore (l : Launch) (hls : l.stackTraces = false) (K : KX) (x : Nat) (tx : Nat) (ho : Nat) (ca : Nat) (tr : Nat) (hi : Nat) (sl : Nat) (sv : Nat) (v : Int32) (hoa : Nat → Nat) (S : HV)  (qs : Nat) (cn : Nat) (nx : Nat) (sh : Nat → Nat) (V : Nat → Int32) (sa : Nat → Nat → Nat) (Sl : Nat → HV) (hzL : ∀ i, i < 2 → Sl i 16 0 = 0 ∨ Sl i 16 0 = 1) (o : Nat) (g9 : Nat → Int64) (sz : Nat) : vx_Met l yL_restore wsL_restore rm_L_restore (va_Pc [.ref x, .int v, .ref o] (xPreS K ([(o, aL K 1 g9)] ++ ([(x, .inr (5, [.ref tx, .ref ho, .ref ca, .ref tr, .ref hi, .ref sl, .ref sv]))] ++ hw K ho hoa S ++ [(hi, .inr (1, [.ref qs, .int (nI cn), .int (nI nx)]))] ++ [(sl, aQ K 2 (fun j => some (sh j)))] ++ [(sv, aZ K 2 V)] ++ hwR K sh sa Sl 2)) sz)) (va_Qi (fun (r9 : Int32) (uu : (Int32 × Unit) ⊕ Unit) => Sum.elim (fun z => r9 = 0 ∧ kRest V v = 0 ∧ z.1 = Sl (cN v) 12 0) (fun _ => (kRest V v = 1 ∧ r9 = 1) ∨ (kRest V v = 2 ∧ r9 = 2)) uu) (fun uu t => xPost K (va_A ([(o, aL K 1 g9)] ++ ([(x, .inr (5, [.ref tx, .ref ho, .ref ca, .ref tr, .ref hi, .ref sl, .ref sv]))] ++ hw K ho hoa S ++ [(hi, .inr (1, [.ref qs, .int (nI cn), .int (nI nx)]))] ++ [(sl, aQ K 2 (fun j => some (sh j)))] ++ [(sv, aZ K 2 V)] ++ hwR K sh sa Sl 2)) sz) (Sum.elim (fun z => [(o, aL K 1 (vp_updL g9 0 z.1.toInt64))] ++ ([(x, .inr (5, [.ref tx, .ref ho, .ref ca, .ref tr, .ref hi, .ref sl, .ref sv]))] ++ hw K ho hoa (Sl (cN v)) ++ [(hi, .inr (1, [.ref qs, .int (nI 0), .int (nI nx)]))] ++ [(sl, aQ K 2 (fun j => some (sh j)))] ++ [(sv, aZ K 2 V)] ++ hwR K sh sa Sl 2)) (fun z => [(o, aL K 1 g9)] ++ ([(x, .inr (5, [.ref tx, .ref ho, .ref ca, .ref tr, .ref hi, .ref sl, .ref sv]))] ++ hw K ho hoa S ++ [(hi, .inr (1, [.ref qs, .int (nI cn), .int (nI nx)]))] ++ [(sl, aQ K 2 (fun j => some (sh j)))] ++ [(sv, aZ K 2 V)] ++ hwR K sh sa Sl 2)) uu) t) (va_A ([(o, aL K 1 g9)] ++ ([(x, .inr (5, [.ref tx, .ref ho, .ref ca, .ref tr, .ref hi, .ref sl, .ref sv]))] ++ hw K ho hoa S ++ [(hi, .inr (1, [.ref qs, .int (nI cn), .int (nI nx)]))] ++ [(sl, aQ K 2 (fun j => some (sh j)))] ++ [(sv, aZ K 2 V)] ++ hwR K sh sa Sl 2)) sz)) xNo 4 24 (va_A ([(o, aL K 1 g9)] ++ ([(x, .inr (5, [.ref tx, .ref ho, .ref ca, .ref tr, .ref hi, .ref sl, .ref sv]))] ++ hw K ho hoa S ++ [(hi, .inr (1, [.ref qs, .int (nI cn), .int (nI nx)]))] ++ [(sl, aQ K 2 (fun j => some (sh j)))] ++ [(sv, aZ K 2 V)] ++ hwR K sh sa Sl 2)) sz) := by
  refine xl_start (cc := cL_restore) (maxL := 4) (hh := [(0, 9, 12, 28), (0, 9, 15, 15)]) (by decide) rfl (Nat.le_of_ble_eq_true rfl) ?_
  intro p9 e9 s9 m9 below9 meth9 c9 H locs ls A av9 Q9 hx hb hlocks hml hts hown hK hP hD hS hA hsz hZ htab hend hl
  have hown : s9.vm.findClass RL = some m9.cls := hown
  have hl : lv_has ls 4 [(0, .ref x), (1, .int v), (2, .ref o)] := hl
  refine lv_aload_n hx hb dL_restore_0 rfl (lv_at hl 2 rfl) ?_
  refine lv_iconst (v := (0 : Int32)) hx hb dL_restore_1 (by decide) ?_
  refine lv_aload_n hx hb dL_restore_2 rfl (lv_at hl 0 rfl) ?_
  refine lv_iload_n hx hb dL_restore_3 rfl (lv_at hl 1 rfl) ?_
  have hP := P_perm List.perm_append_comm hP
  have hD := D_perm List.perm_append_comm hD
  refine xl_V (As := [.int v]) (rest := [.int (0 : Int32), .ref o]) (wc := [(x, .inr (5, [.ref tx, .ref ho, .ref ca, .ref tr, .ref hi, .ref sl, .ref sv]))] ++ hw K ho hoa S ++ [(hi, .inr (1, [.ref qs, .int (nI cn), .int (nI nx)]))] ++ [(sl, aQ K 2 (fun j => some (sh j)))] ++ [(sv, aZ K 2 V)] ++ hwR K sh sa Sl 2) (wr := [(o, aL K 1 g9)]) ⟨hx, hb, hml, hown, hts⟩ (c_X5_restore l hls K x tx ho ca tr hi sl sv v hoa S qs cn nx sh V sa Sl hzL H.size) (cwV 1 hts gL_restore_X5_restore rfl rfl rfl (by decide +kernel) ⟨Nat.le_of_ble_eq_true rfl, Nat.le_of_ble_eq_true rfl⟩) hK hP hD hS hZ hA 0 5 rfl rfl rfl rfl hl.1 rfl (Nat.le_of_ble_eq_true rfl) (Nat.le_of_ble_eq_true rfl) (Nat.le_of_ble_eq_true rfl) dL_restore_4 (fun E8 ce q9 u8 H locs hpx hP hD hS hce hcv hcl => ?_) (fun r8 u8 H locs hq hP hD hS => ?_)
  · have hP := P_perm List.perm_append_comm hP
    have hD := D_perm List.perm_append_comm hD
    rcases hpx with ⟨hk9, rfl⟩ | ⟨hk9, rfl⟩
    · skip
      refine xl_c1 (st := []) hown htab rfl (by decide) (by decide) hZ (hts (.classLink RL 28 "java/lang/IndexOutOfBoundsException") (by decide +kernel)) hce hcv hcl ?_
      refine lv_astore_n (lv' := [(3, .ref q9), (0, .ref x), (1, .int v), (2, .ref o)]) hx hb dL_restore_12 rfl hl (by decide) rfl (fun ls hl => ?_)
      refine lv_iconst (v := (1 : Int32)) hx hb dL_restore_13 (by decide) ?_
      exact hend _ _ _ _ _ _ _ (Sum.inr u8) hP hD hS (Nat.le_of_ble_eq_true rfl) (Nat.le_of_ble_eq_true rfl) (Or.inl ⟨hk9, rfl⟩) dL_restore_14
    · skip
      refine xl_c2 (st := []) hown htab rfl (by decide) (by decide) (by decide) (by decide) hZ (hts (.classLink RL 28 "java/lang/IndexOutOfBoundsException") (by decide +kernel)) (hts (.classLink RL 15 "java/lang/IllegalStateException") (by decide +kernel)) hce hcv hcl ?_
      refine lv_astore_n (lv' := [(3, .ref q9), (0, .ref x), (1, .int v), (2, .ref o)]) hx hb dL_restore_15 rfl hl (by decide) rfl (fun ls hl => ?_)
      refine lv_iconst (v := (2 : Int32)) hx hb dL_restore_16 (by decide) ?_
      exact hend _ _ _ _ _ _ _ (Sum.inr u8) hP hD hS (Nat.le_of_ble_eq_true rfl) (Nat.le_of_ble_eq_true rfl) (Or.inr ⟨hk9, rfl⟩) dL_restore_17
  · have hP := P_perm List.perm_append_comm hP
    have hD := D_perm List.perm_append_comm hD
    have hP : va_P K.1 vwCl ([(o, aL K 1 g9)] ++ ([(x, .inr (5, [.ref tx, .ref ho, .ref ca, .ref tr, .ref hi, .ref sl, .ref sv]))] ++ hw K ho hoa (Sl (cN v)) ++ [(hi, .inr (1, [.ref qs, .int (nI 0), .int (nI nx)]))] ++ [(sl, aQ K 2 (fun j => some (sh j)))] ++ [(sv, aZ K 2 V)] ++ hwR K sh sa Sl 2)) H := hP
    have hD : va_D A ([(o, aL K 1 g9)] ++ ([(x, .inr (5, [.ref tx, .ref ho, .ref ca, .ref tr, .ref hi, .ref sl, .ref sv]))] ++ hw K ho hoa (Sl (cN v)) ++ [(hi, .inr (1, [.ref qs, .int (nI 0), .int (nI nx)]))] ++ [(sl, aQ K 2 (fun j => some (sh j)))] ++ [(sv, aZ K 2 V)] ++ hwR K sh sa Sl 2)) := hD
    refine lv_i2l (v := r8.toInt64) hx hb dL_restore_7 rfl ?_
    refine xl_st hx hb hK hP hD hS 0 (f := g9) rfl 0 rfl (by decide) (by decide) ([(o, aL K 1 (vp_updL g9 0 r8.toInt64))] ++ ([(x, .inr (5, [.ref tx, .ref ho, .ref ca, .ref tr, .ref hi, .ref sl, .ref sv]))] ++ hw K ho hoa (Sl (cN v)) ++ [(hi, .inr (1, [.ref qs, .int (nI 0), .int (nI nx)]))] ++ [(sl, aQ K 2 (fun j => some (sh j)))] ++ [(sv, aZ K 2 V)] ++ hwR K sh sa Sl 2)) rfl dL_restore_8 (fun H locs hP hD hS => ?_)
    refine lv_goto (tgt := 18) hx hb dL_restore_9 (by decide) ?_
    refine lv_iconst (v := (0 : Int32)) hx hb dL_restore_18 (by decide) ?_
    exact hend _ _ _ _ _ _ _ (Sum.inl (r8, u8)) hP hD hS (Nat.le_of_ble_eq_true rfl) (Nat.le_of_ble_eq_true rfl) ⟨rfl, hq⟩ dL_restore_19

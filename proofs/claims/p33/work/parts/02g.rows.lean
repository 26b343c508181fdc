/-! calls over worlds in any order -/
theorem rot3 {α : Type} (a p x : List α) : (a ++ p ++ x).Perm (a ++ x ++ p) := by
  rw [List.append_assoc, List.append_assoc]
  exact List.perm_append_comm.append_left a
theorem rot2 {α : Type} (a x p : List α) : (a ++ x ++ p).Perm (x ++ (a ++ p)) := by
  rw [← List.append_assoc]
  exact List.perm_append_comm.append_right p
section XQ
variable {p : Program} {l : Launch} {e : Env} {R : Room} {s : State} {m : MethodId} {args : Array Value} {below : List Frame} {meth : Method} {c : Code} {H : Heap} {locs : List Loc} {cells slots : Nat} {Q : State → Prop}
variable {cc : ByteArray} {pc : Nat} {ls : Array Slot} {rest : List Value} {K : KX} {A : Nat → Prop} {a : Nat} {ws : va_W} {H0 : Heap}
theorem pw_Vi {S9 : Type} {post : Int32 → S9 → Prop} {w1 : S9 → va_W} {y : MethodName} {bytes : ByteArray} {maxL nL n index mc ms : Nat} {ret : Option FieldType} {ws9 Ts : List Cond} {rm : Room} {own C : String} {b : Nat} {As st0 : List Value} {wc wr : va_W}
    (S : CallFix p m c cc nL s args Ts own) (hM : Met l y ws9 rm (va_Pc (.ref b :: As) (xPre K wc H.size)) (va_Qi post (fun u t => xPost K (va_A wc H.size) (w1 u) t) (va_A wc H.size)) mc ms (va_A wc H.size)) (cw : CallW R s args own C index y bytes maxL ret ws9 rm mc ms n) (hK : va_K K.1 vwCl (kt K) s) (hP : va_P K.1 vwCl ws H) (hD : va_D A ws) (hS : va_S A s.heap H locs) (hA : ∀ q : Nat, s.heap.size ≤ q → A q)
    (hperm : ws.Perm (wc ++ wr)) (wn : S9 → va_W) (hp : ∀ u, (w1 u ++ wr).Perm (wn u)) (q0 ci : Nat) {q : vw_C} {fs : List Value} (hc : vwCl[ci]? = some q) (hqC : q.1 = C) (he : wc[q0]? = some (b, .inr (ci, fs))) (hn : As.length = n) (hsize : ls.size = nL) (hst : st0 = As.reverse ++ .ref b :: rest) (hW : (rest.map fun v => v.category).sum ≤ 8) (hce : cells + mc ≤ R.cells) (hsl : slots + ms ≤ R.slots) (hdg : decode cc pc = .ok (.invokevirtual index, 3))
    (kk : ∀ (r : Int32) (u : S9) (H1 : Heap) (locs1 : List Loc), post r u → va_P K.1 vwCl (wn u) H1 → va_D A (wn u) → va_S A s.heap H1 locs1 → W p l e R s m args below meth c H1 locs1 (cells + mc) (slots + ms) Q (F0 m (pc + 3) ls (.int r :: rest))) : W p l e R s m args below meth c H locs cells slots Q (F0 m pc ls st0) := by
  subst hqC
  have hP9 := P_perm hperm hP
  have hD9 := D_perm hperm hD
  have hPc := (P_app hP9).1
  have hDc := (D_app hD9).1
  have hF := A_of hDc hA hS.1
  refine va_calli (a := (Value.ref b :: As).toArray) (rest := rest) (va_runV S hM cw ⟨xPre_blind K wc _ _, va_recv hK hPc hc he, fun U hU hW => ⟨rfl, by rw [hU], by rw [hU]; exact hPc, va_K.moved hW.alike hK, hDc.weaken (fun _ _ _ _ => trivial)⟩⟩ rfl hn hsize hst (lv_room hW) hdg ⟨hce, hsl⟩) hS (fun q _ h => hF q h) hF (fun r u t H1 locs1 ht hvm hw hB hz1 hk1 hS1 => ?_)
  obtain ⟨hP1, hK1, hD1⟩ := hB
  rw [ht] at hP1
  obtain ⟨hP2, hD2⟩ := back_app hP9 hD9 hF hk1 hP1 hD1
  exact kk r u H1 locs1 hw (P_perm (hp u) hP2) (D_perm (hp u) hD2) hS1
theorem pw_Vv {S9 : Type} {post : S9 → Prop} {w1 : S9 → va_W} {y : MethodName} {bytes : ByteArray} {maxL nL n index mc ms : Nat} {ret : Option FieldType} {ws9 Ts : List Cond} {rm : Room} {own C : String} {b : Nat} {As st0 : List Value} {wc wr : va_W}
    (S : CallFix p m c cc nL s args Ts own) (hM : Met l y ws9 rm (va_Pc (.ref b :: As) (xPre K wc H.size)) (va_Qv post (fun u t => xPost K (va_A wc H.size) (w1 u) t) (va_A wc H.size)) mc ms (va_A wc H.size)) (cw : CallW R s args own C index y bytes maxL ret ws9 rm mc ms n) (hK : va_K K.1 vwCl (kt K) s) (hP : va_P K.1 vwCl ws H) (hD : va_D A ws) (hS : va_S A s.heap H locs) (hA : ∀ q : Nat, s.heap.size ≤ q → A q)
    (hperm : ws.Perm (wc ++ wr)) (wn : S9 → va_W) (hp : ∀ u, (w1 u ++ wr).Perm (wn u)) (q0 ci : Nat) {q : vw_C} {fs : List Value} (hc : vwCl[ci]? = some q) (hqC : q.1 = C) (he : wc[q0]? = some (b, .inr (ci, fs))) (hn : As.length = n) (hsize : ls.size = nL) (hst : st0 = As.reverse ++ .ref b :: rest) (hW : (rest.map fun v => v.category).sum ≤ 8) (hce : cells + mc ≤ R.cells) (hsl : slots + ms ≤ R.slots) (hdg : decode cc pc = .ok (.invokevirtual index, 3))
    (kk : ∀ (u : S9) (H1 : Heap) (locs1 : List Loc), post u → va_P K.1 vwCl (wn u) H1 → va_D A (wn u) → va_S A s.heap H1 locs1 → W p l e R s m args below meth c H1 locs1 (cells + mc) (slots + ms) Q (F0 m (pc + 3) ls rest)) : W p l e R s m args below meth c H locs cells slots Q (F0 m pc ls st0) := by
  subst hqC
  have hP9 := P_perm hperm hP
  have hD9 := D_perm hperm hD
  have hPc := (P_app hP9).1
  have hDc := (D_app hD9).1
  have hF := A_of hDc hA hS.1
  refine va_callv (a := (Value.ref b :: As).toArray) (rest := rest) (va_runV S hM cw ⟨xPre_blind K wc _ _, va_recv hK hPc hc he, fun U hU hW => ⟨rfl, by rw [hU], by rw [hU]; exact hPc, va_K.moved hW.alike hK, hDc.weaken (fun _ _ _ _ => trivial)⟩⟩ rfl hn hsize hst (lv_room hW) hdg ⟨hce, hsl⟩) hS (fun q _ h => hF q h) hF (fun u t H1 locs1 ht hvm hw hB hz1 hk1 hS1 => ?_)
  obtain ⟨hP1, hK1, hD1⟩ := hB
  rw [ht] at hP1
  obtain ⟨hP2, hD2⟩ := back_app hP9 hD9 hF hk1 hP1 hD1
  exact kk u H1 locs1 hw (P_perm (hp u) hP2) (D_perm (hp u) hD2) hS1
theorem pw_Sv {S9 : Type} {post : S9 → Prop} {w1 : S9 → va_W} {y : MethodName} {bytes : ByteArray} {maxL nL n index mc ms : Nat} {ret : Option FieldType} {ws9 Ts : List Cond} {rm : Room} {own : String} {As st0 : List Value} {wc wr : va_W}
    (S : CallFix p m c cc nL s args Ts own) (hM : Met l y ws9 rm (va_Pc As (xPre K wc H.size)) (va_Qv post (fun u t => xPost K (va_A wc H.size) (w1 u) t) (va_A wc H.size)) mc ms (va_A wc H.size)) (cw : CallB R s args own index y bytes maxL ret ws9 rm mc ms n ∧ (Cond.static y).before args s = true) (hK : va_K K.1 vwCl (kt K) s) (hP : va_P K.1 vwCl ws H) (hD : va_D A ws) (hS : va_S A s.heap H locs) (hA : ∀ q : Nat, s.heap.size ≤ q → A q)
    (hperm : ws.Perm (wc ++ wr)) (wn : S9 → va_W) (hp : ∀ u, (w1 u ++ wr).Perm (wn u)) (hn : As.length = n) (hsize : ls.size = nL) (hst : st0 = As.reverse ++ rest) (hW : (rest.map fun v => v.category).sum ≤ 8) (hce : cells + mc ≤ R.cells) (hsl : slots + ms ≤ R.slots) (hdg : decode cc pc = .ok (.invokestatic index, 3))
    (kk : ∀ (u : S9) (H1 : Heap) (locs1 : List Loc), post u → va_P K.1 vwCl (wn u) H1 → va_D A (wn u) → va_S A s.heap H1 locs1 → W p l e R s m args below meth c H1 locs1 (cells + mc) (slots + ms) Q (F0 m (pc + 3) ls rest)) : W p l e R s m args below meth c H locs cells slots Q (F0 m pc ls st0) := by
  have hP9 := P_perm hperm hP
  have hD9 := D_perm hperm hD
  have hPc := (P_app hP9).1
  have hDc := (D_app hD9).1
  have hF := A_of hDc hA hS.1
  refine va_callv (a := As.toArray) (rest := rest) (va_runS S hM cw ⟨xPre_blind K wc _ _, fun U hU hW => ⟨rfl, by rw [hU], by rw [hU]; exact hPc, va_K.moved hW.alike hK, hDc.weaken (fun _ _ _ _ => trivial)⟩⟩ rfl hn hsize hst (lv_room hW) hdg ⟨hce, hsl⟩) hS (fun q _ h => hF q h) hF (fun u t H1 locs1 ht hvm hw hB hz1 hk1 hS1 => ?_)
  obtain ⟨hP1, hK1, hD1⟩ := hB
  rw [ht] at hP1
  obtain ⟨hP2, hD2⟩ := back_app hP9 hD9 hF hk1 hP1 hD1
  exact kk u H1 locs1 hw (P_perm (hp u) hP2) (D_perm (hp u) hD2) hS1
theorem ps_Vi {S9 : Type} {post : Int32 → S9 → Prop} {w1 : S9 → va_W} {y : MethodName} {bytes : ByteArray} {maxL nL n index mc ms : Nat} {ret : Option FieldType} {ws9 Ts : List Cond} {rm : Room} {own C : String} {b : Nat} {As st0 : List Value} {wc wr : va_W}
    (S : CallFix p m c cc nL s args Ts own) (hM : Met l y ws9 rm (va_Pc (.ref b :: As) (xPreS K wc H.size)) (va_Qi post (fun u t => xPost K (va_A wc H.size) (w1 u) t) (va_A wc H.size)) mc ms (va_A wc H.size)) (cw : CallW R s args own C index y bytes maxL ret ws9 rm mc ms n) (hK : va_K K.1 vwCl (kt K) s) (hP : va_P K.1 vwCl ws H) (hD : va_D A ws) (hS : va_S A s.heap H locs) (hZ : xSt A s s.heap) (hA : ∀ q : Nat, s.heap.size ≤ q → A q)
    (hperm : ws.Perm (wc ++ wr)) (wn : S9 → va_W) (hp : ∀ u, (w1 u ++ wr).Perm (wn u)) (q0 ci : Nat) {q : vw_C} {fs : List Value} (hc : vwCl[ci]? = some q) (hqC : q.1 = C) (he : wc[q0]? = some (b, .inr (ci, fs))) (hn : As.length = n) (hsize : ls.size = nL) (hst : st0 = As.reverse ++ .ref b :: rest) (hW : (rest.map fun v => v.category).sum ≤ 8) (hce : cells + mc ≤ R.cells) (hsl : slots + ms ≤ R.slots) (hdg : decode cc pc = .ok (.invokevirtual index, 3))
    (kk : ∀ (r : Int32) (u : S9) (H1 : Heap) (locs1 : List Loc), post r u → va_P K.1 vwCl (wn u) H1 → va_D A (wn u) → va_S A s.heap H1 locs1 → W p l e R s m args below meth c H1 locs1 (cells + mc) (slots + ms) Q (F0 m (pc + 3) ls (.int r :: rest))) : W p l e R s m args below meth c H locs cells slots Q (F0 m pc ls st0) := by
  subst hqC
  have hP9 := P_perm hperm hP
  have hD9 := D_perm hperm hD
  have hPc := (P_app hP9).1
  have hDc := (D_app hD9).1
  have hF := A_of hDc hA hS.1
  refine va_calli (a := (Value.ref b :: As).toArray) (rest := rest) (va_runV S hM cw ⟨xPreS_blind K wc _ _, va_recv hK hPc hc he, fun U hU hW => ⟨rfl, ⟨by rw [hU], by rw [hU]; exact hPc, va_K.moved hW.alike hK, hDc.weaken (fun _ _ _ _ => trivial)⟩, hZ.call hS hF hU hW⟩⟩ rfl hn hsize hst (lv_room hW) hdg ⟨hce, hsl⟩) hS (fun q _ h => hF q h) hF (fun r u t H1 locs1 ht hvm hw hB hz1 hk1 hS1 => ?_)
  obtain ⟨hP1, hK1, hD1⟩ := hB
  rw [ht] at hP1
  obtain ⟨hP2, hD2⟩ := back_app hP9 hD9 hF hk1 hP1 hD1
  exact kk r u H1 locs1 hw (P_perm (hp u) hP2) (D_perm (hp u) hD2) hS1
theorem ps_Vv {S9 : Type} {post : S9 → Prop} {w1 : S9 → va_W} {y : MethodName} {bytes : ByteArray} {maxL nL n index mc ms : Nat} {ret : Option FieldType} {ws9 Ts : List Cond} {rm : Room} {own C : String} {b : Nat} {As st0 : List Value} {wc wr : va_W}
    (S : CallFix p m c cc nL s args Ts own) (hM : Met l y ws9 rm (va_Pc (.ref b :: As) (xPreS K wc H.size)) (va_Qv post (fun u t => xPost K (va_A wc H.size) (w1 u) t) (va_A wc H.size)) mc ms (va_A wc H.size)) (cw : CallW R s args own C index y bytes maxL ret ws9 rm mc ms n) (hK : va_K K.1 vwCl (kt K) s) (hP : va_P K.1 vwCl ws H) (hD : va_D A ws) (hS : va_S A s.heap H locs) (hZ : xSt A s s.heap) (hA : ∀ q : Nat, s.heap.size ≤ q → A q)
    (hperm : ws.Perm (wc ++ wr)) (wn : S9 → va_W) (hp : ∀ u, (w1 u ++ wr).Perm (wn u)) (q0 ci : Nat) {q : vw_C} {fs : List Value} (hc : vwCl[ci]? = some q) (hqC : q.1 = C) (he : wc[q0]? = some (b, .inr (ci, fs))) (hn : As.length = n) (hsize : ls.size = nL) (hst : st0 = As.reverse ++ .ref b :: rest) (hW : (rest.map fun v => v.category).sum ≤ 8) (hce : cells + mc ≤ R.cells) (hsl : slots + ms ≤ R.slots) (hdg : decode cc pc = .ok (.invokevirtual index, 3))
    (kk : ∀ (u : S9) (H1 : Heap) (locs1 : List Loc), post u → va_P K.1 vwCl (wn u) H1 → va_D A (wn u) → va_S A s.heap H1 locs1 → W p l e R s m args below meth c H1 locs1 (cells + mc) (slots + ms) Q (F0 m (pc + 3) ls rest)) : W p l e R s m args below meth c H locs cells slots Q (F0 m pc ls st0) := by
  subst hqC
  have hP9 := P_perm hperm hP
  have hD9 := D_perm hperm hD
  have hPc := (P_app hP9).1
  have hDc := (D_app hD9).1
  have hF := A_of hDc hA hS.1
  refine va_callv (a := (Value.ref b :: As).toArray) (rest := rest) (va_runV S hM cw ⟨xPreS_blind K wc _ _, va_recv hK hPc hc he, fun U hU hW => ⟨rfl, ⟨by rw [hU], by rw [hU]; exact hPc, va_K.moved hW.alike hK, hDc.weaken (fun _ _ _ _ => trivial)⟩, hZ.call hS hF hU hW⟩⟩ rfl hn hsize hst (lv_room hW) hdg ⟨hce, hsl⟩) hS (fun q _ h => hF q h) hF (fun u t H1 locs1 ht hvm hw hB hz1 hk1 hS1 => ?_)
  obtain ⟨hP1, hK1, hD1⟩ := hB
  rw [ht] at hP1
  obtain ⟨hP2, hD2⟩ := back_app hP9 hD9 hF hk1 hP1 hD1
  exact kk u H1 locs1 hw (P_perm (hp u) hP2) (D_perm (hp u) hD2) hS1
theorem pw_I {S9 : Type} {post : S9 → Prop} {w1 : S9 → va_W} {y : MethodName} {bytes : ByteArray} {maxL nL n index mc ms : Nat} {ws9 Ts : List Cond} {rm : Room} {own : String} {b : Nat} {As st0 : List Value} {wc wr : va_W}
    (S : CallFix p m c cc nL s args Ts own) (hM : Met l y ws9 rm (va_Pc (.ref b :: As) (xPre K wc H.size)) (va_Qv post (fun u t => xPost K (va_A wc H.size) (w1 u) t) (va_A wc H.size)) mc ms (va_A wc H.size)) (cw : CallB R s args own index y bytes maxL none ws9 rm mc ms n ∧ y.name = "<init>" ∧ (Cond.instanceMethod y).before args s = true) (hK : va_K K.1 vwCl (kt K) s) (hP : va_P K.1 vwCl ws H) (hD : va_D A ws) (hS : va_S A s.heap H locs) (hA : ∀ q : Nat, s.heap.size ≤ q → A q)
    (hperm : ws.Perm (wc ++ wr)) (wn : S9 → va_W) (hp : ∀ u, (w1 u ++ wr).Perm (wn u)) (hn : As.length = n) (hsize : ls.size = nL) (hst : st0 = As.reverse ++ .ref b :: rest) (hW : (rest.map fun v => v.category).sum ≤ 8) (hce : cells + mc ≤ R.cells) (hsl : slots + ms ≤ R.slots) (hdg : decode cc pc = .ok (.invokespecial index, 3))
    (kk : ∀ (u : S9) (H1 : Heap) (locs1 : List Loc), post u → va_P K.1 vwCl (wn u) H1 → va_D A (wn u) → va_S A s.heap H1 locs1 → W p l e R s m args below meth c H1 locs1 (cells + mc) (slots + ms) Q (F0 m (pc + 3) ls rest)) : W p l e R s m args below meth c H locs cells slots Q (F0 m pc ls st0) := by
  have hP9 := P_perm hperm hP
  have hD9 := D_perm hperm hD
  have hPc := (P_app hP9).1
  have hDc := (D_app hD9).1
  have hF := A_of hDc hA hS.1
  refine va_callv (a := (Value.ref b :: As).toArray) (rest := rest) (va_runI S hM cw ⟨xPre_blind K wc _ _, fun U hU hW => ⟨rfl, by rw [hU], by rw [hU]; exact hPc, va_K.moved hW.alike hK, hDc.weaken (fun _ _ _ _ => trivial)⟩⟩ rfl hn hsize hst (lv_room hW) hdg ⟨hce, hsl⟩) hS (fun q _ h => hF q h) hF (fun u t H1 locs1 ht hvm hw hB hz1 hk1 hS1 => ?_)
  obtain ⟨hP1, hK1, hD1⟩ := hB
  rw [ht] at hP1
  obtain ⟨hP2, hD2⟩ := back_app hP9 hD9 hF hk1 hP1 hD1
  exact kk u H1 locs1 hw (P_perm (hp u) hP2) (D_perm (hp u) hD2) hS1
theorem ps_I {S9 : Type} {post : S9 → Prop} {w1 : S9 → va_W} {y : MethodName} {bytes : ByteArray} {maxL nL n index mc ms : Nat} {ws9 Ts : List Cond} {rm : Room} {own : String} {b : Nat} {As st0 : List Value} {wc wr : va_W}
    (S : CallFix p m c cc nL s args Ts own) (hM : Met l y ws9 rm (va_Pc (.ref b :: As) (xPreS K wc H.size)) (va_Qv post (fun u t => xPost K (va_A wc H.size) (w1 u) t) (va_A wc H.size)) mc ms (va_A wc H.size)) (cw : CallB R s args own index y bytes maxL none ws9 rm mc ms n ∧ y.name = "<init>" ∧ (Cond.instanceMethod y).before args s = true) (hK : va_K K.1 vwCl (kt K) s) (hP : va_P K.1 vwCl ws H) (hD : va_D A ws) (hS : va_S A s.heap H locs) (hZ : xSt A s s.heap) (hA : ∀ q : Nat, s.heap.size ≤ q → A q)
    (hperm : ws.Perm (wc ++ wr)) (wn : S9 → va_W) (hp : ∀ u, (w1 u ++ wr).Perm (wn u)) (hn : As.length = n) (hsize : ls.size = nL) (hst : st0 = As.reverse ++ .ref b :: rest) (hW : (rest.map fun v => v.category).sum ≤ 8) (hce : cells + mc ≤ R.cells) (hsl : slots + ms ≤ R.slots) (hdg : decode cc pc = .ok (.invokespecial index, 3))
    (kk : ∀ (u : S9) (H1 : Heap) (locs1 : List Loc), post u → va_P K.1 vwCl (wn u) H1 → va_D A (wn u) → va_S A s.heap H1 locs1 → W p l e R s m args below meth c H1 locs1 (cells + mc) (slots + ms) Q (F0 m (pc + 3) ls rest)) : W p l e R s m args below meth c H locs cells slots Q (F0 m pc ls st0) := by
  have hP9 := P_perm hperm hP
  have hD9 := D_perm hperm hD
  have hPc := (P_app hP9).1
  have hDc := (D_app hD9).1
  have hF := A_of hDc hA hS.1
  refine va_callv (a := (Value.ref b :: As).toArray) (rest := rest) (va_runI S hM cw ⟨xPreS_blind K wc _ _, fun U hU hW => ⟨rfl, ⟨by rw [hU], by rw [hU]; exact hPc, va_K.moved hW.alike hK, hDc.weaken (fun _ _ _ _ => trivial)⟩, hZ.call hS hF hU hW⟩⟩ rfl hn hsize hst (lv_room hW) hdg ⟨hce, hsl⟩) hS (fun q _ h => hF q h) hF (fun u t H1 locs1 ht hvm hw hB hz1 hk1 hS1 => ?_)
  obtain ⟨hP1, hK1, hD1⟩ := hB
  rw [ht] at hP1
  obtain ⟨hP2, hD2⟩ := back_app hP9 hD9 hF hk1 hP1 hD1
  exact kk u H1 locs1 hw (P_perm (hp u) hP2) (D_perm (hp u) hD2) hS1
theorem pw_IN {S9 : Type} {post : S9 → Prop} {w1 : S9 → va_W} {y : MethodName} {bytes : ByteArray} {maxL nL n index mc ms : Nat} {ws9 Ts : List Cond} {rm : Room} {own host : String} {b : Nat} {As st0 : List Value} {wc wr : va_W}
    (S : CallFix p m c cc nL s args Ts own) (hM : Met l y ws9 rm (va_Pc (.ref b :: As) (xPre K wc H.size)) (va_Qv post (fun u t => xPost K (va_A wc H.size) (w1 u) t) (va_A wc H.size)) mc ms (va_A wc H.size)) (cw : va_CN R s args own index y host bytes maxL none ws9 rm mc ms n ∧ y.name = "<init>" ∧ (Cond.instanceMethod y).before args s = true) (hK : va_K K.1 vwCl (kt K) s) (hP : va_P K.1 vwCl ws H) (hD : va_D A ws) (hS : va_S A s.heap H locs) (hA : ∀ q : Nat, s.heap.size ≤ q → A q)
    (hperm : ws.Perm (wc ++ wr)) (wn : S9 → va_W) (hp : ∀ u, (w1 u ++ wr).Perm (wn u)) (hn : As.length = n) (hsize : ls.size = nL) (hst : st0 = As.reverse ++ .ref b :: rest) (hW : (rest.map fun v => v.category).sum ≤ 8) (hce : cells + mc ≤ R.cells) (hsl : slots + ms ≤ R.slots) (hdg : decode cc pc = .ok (.invokespecial index, 3))
    (kk : ∀ (u : S9) (H1 : Heap) (locs1 : List Loc), post u → va_P K.1 vwCl (wn u) H1 → va_D A (wn u) → va_S A s.heap H1 locs1 → W p l e R s m args below meth c H1 locs1 (cells + mc) (slots + ms) Q (F0 m (pc + 3) ls rest)) : W p l e R s m args below meth c H locs cells slots Q (F0 m pc ls st0) := by
  have hP9 := P_perm hperm hP
  have hD9 := D_perm hperm hD
  have hPc := (P_app hP9).1
  have hDc := (D_app hD9).1
  have hF := A_of hDc hA hS.1
  refine va_callv (a := (Value.ref b :: As).toArray) (rest := rest) (va_runIN S hM cw ⟨xPre_blind K wc _ _, fun U hU hW => ⟨rfl, by rw [hU], by rw [hU]; exact hPc, va_K.moved hW.alike hK, hDc.weaken (fun _ _ _ _ => trivial)⟩⟩ rfl hn hsize hst (lv_room hW) hdg ⟨hce, hsl⟩) hS (fun q _ h => hF q h) hF (fun u t H1 locs1 ht hvm hw hB hz1 hk1 hS1 => ?_)
  obtain ⟨hP1, hK1, hD1⟩ := hB
  rw [ht] at hP1
  obtain ⟨hP2, hD2⟩ := back_app hP9 hD9 hF hk1 hP1 hD1
  exact kk u H1 locs1 hw (P_perm (hp u) hP2) (D_perm (hp u) hD2) hS1
theorem ps_IN {S9 : Type} {post : S9 → Prop} {w1 : S9 → va_W} {y : MethodName} {bytes : ByteArray} {maxL nL n index mc ms : Nat} {ws9 Ts : List Cond} {rm : Room} {own host : String} {b : Nat} {As st0 : List Value} {wc wr : va_W}
    (S : CallFix p m c cc nL s args Ts own) (hM : Met l y ws9 rm (va_Pc (.ref b :: As) (xPreS K wc H.size)) (va_Qv post (fun u t => xPost K (va_A wc H.size) (w1 u) t) (va_A wc H.size)) mc ms (va_A wc H.size)) (cw : va_CN R s args own index y host bytes maxL none ws9 rm mc ms n ∧ y.name = "<init>" ∧ (Cond.instanceMethod y).before args s = true) (hK : va_K K.1 vwCl (kt K) s) (hP : va_P K.1 vwCl ws H) (hD : va_D A ws) (hS : va_S A s.heap H locs) (hZ : xSt A s s.heap) (hA : ∀ q : Nat, s.heap.size ≤ q → A q)
    (hperm : ws.Perm (wc ++ wr)) (wn : S9 → va_W) (hp : ∀ u, (w1 u ++ wr).Perm (wn u)) (hn : As.length = n) (hsize : ls.size = nL) (hst : st0 = As.reverse ++ .ref b :: rest) (hW : (rest.map fun v => v.category).sum ≤ 8) (hce : cells + mc ≤ R.cells) (hsl : slots + ms ≤ R.slots) (hdg : decode cc pc = .ok (.invokespecial index, 3))
    (kk : ∀ (u : S9) (H1 : Heap) (locs1 : List Loc), post u → va_P K.1 vwCl (wn u) H1 → va_D A (wn u) → va_S A s.heap H1 locs1 → W p l e R s m args below meth c H1 locs1 (cells + mc) (slots + ms) Q (F0 m (pc + 3) ls rest)) : W p l e R s m args below meth c H locs cells slots Q (F0 m pc ls st0) := by
  have hP9 := P_perm hperm hP
  have hD9 := D_perm hperm hD
  have hPc := (P_app hP9).1
  have hDc := (D_app hD9).1
  have hF := A_of hDc hA hS.1
  refine va_callv (a := (Value.ref b :: As).toArray) (rest := rest) (va_runIN S hM cw ⟨xPreS_blind K wc _ _, fun U hU hW => ⟨rfl, ⟨by rw [hU], by rw [hU]; exact hPc, va_K.moved hW.alike hK, hDc.weaken (fun _ _ _ _ => trivial)⟩, hZ.call hS hF hU hW⟩⟩ rfl hn hsize hst (lv_room hW) hdg ⟨hce, hsl⟩) hS (fun q _ h => hF q h) hF (fun u t H1 locs1 ht hvm hw hB hz1 hk1 hS1 => ?_)
  obtain ⟨hP1, hK1, hD1⟩ := hB
  rw [ht] at hP1
  obtain ⟨hP2, hD2⟩ := back_app hP9 hD9 hF hk1 hP1 hD1
  exact kk u H1 locs1 hw (P_perm (hp u) hP2) (D_perm (hp u) hD2) hS1
end XQ

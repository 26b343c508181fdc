/-! the law from its entry to its loop -/
section LST
variable {p : Program} {l : Launch} {e : Env} {R : Room} {s : State} {m : MethodId} {args : Array Value} {below : List Frame} {meth : Method} {c : Code} {H : Heap} {locs : List Loc} {cells slots : Nat} {Q : State → Prop}
variable {cc : ByteArray} {pc : Nat} {ls : Array Slot} {rest : List Value} {K : KX} {A : Nat → Prop} {ws : va_W}
variable {xs : Nat → Int32} {LL b : Nat}
theorem xl_new (hx : p.tables.exec = Jvm.exec) (hb : c.code = cc) (harr : (Cond.arrayClass .long).before args s = true) (hK : va_K K.1 vwCl (kt K) s) (hP : va_P K.1 vwCl ws H) (hD : va_D A ws) (hS : va_S A s.heap H locs) (hA : ∀ q : Nat, s.heap.size ≤ q → A q) {n : Int32} (N : Nat) (hn : n = nI N) (hN : N < 65536) (hcells : cells + 1 ≤ R.cells) (hslots : slots + N ≤ R.slots) (hdg : decode cc pc = .ok (.newarray .long, 2))
    (kk : ∀ (q : Nat) (H1 : Heap), va_P K.1 vwCl (ws ++ [(q, aL K N (fun _ => 0))]) H1 → va_D A (ws ++ [(q, aL K N (fun _ => 0))]) → va_S A s.heap H1 locs → W p l e R s m args below meth c H1 locs (cells + 1) (slots + N) Q (F0 m (pc + 2) ls (.ref q :: rest))) : W p l e R s m args below meth c H locs cells slots Q (F0 m pc ls (.int n :: rest)) := by
  subst hn
  refine va_newa (atype := .long) (ty := .long) hx hb harr rfl hK hP hD hS hA (a0 := (N, .inr (.inl (fun _ => 0)))) (N' := N) (fun cA => by rw [vp_cell_l]; rfl) (nI_pos (by omega)) (nI_clamp (by omega)) (by show N * 8 ≤ _; omega) hcells hslots hdg (fun q cA H1 hK1 hP1 hD1 hS1 => ?_)
  have e1 : s.vm.findClass ("[" ++ FieldType.long.toString) = some cA := (hK1.2 5 (cA, .long) rfl).2
  have e2 : s.vm.findClass ("[" ++ FieldType.long.toString) = some (K.2 4) := (hK.2 4 (K.2 4, .long) rfl).2
  obtain rfl : cA = K.2 4 := Option.some.inj (e1.symm.trans e2)
  exact kk q H1 hP1 hD1 hS1
theorem perm_last {α : Type} (l : List (List α)) (n : Nat) (hn : l.length = n) (i1 i2 i3 : List Nat) (h : (i1 ++ (i2 ++ i3)).Perm (List.range n)) : (catL l).Perm ((catL (i1.map (fun i => l.getD i [])) ++ catL (i2.map (fun i => l.getD i []))) ++ catL (i3.map (fun i => l.getD i []))) := by
  rw [List.append_assoc]
  exact perm_tri l n hn i1 i2 i3 h
theorem LI_0 : LI 12000 hZr hEmp (hrow hZr 0 mEmp) 0 0 (fun _ => hEmp) (fun _ => hEmp) (fun _ => 0) 0 0 0 (fun _ => 0) := by
  refine ⟨⟨⟨rfl, by omega, fun j h => absurd h (Nat.not_lt_zero _)⟩, rfl, fun j h => absurd h (Nat.not_lt_zero _)⟩, SR_more emp_rel (by omega), ⟨rfl, by omega, by omega, fun _ _ => Or.inl rfl, fun j h => absurd h (Nat.not_lt_zero _)⟩, fun k _ => ⟨rfl, Or.inl rfl⟩, fun _ _ => Or.inl rfl, fun k _ h => ?_⟩
  exact absurd (show (0 : Int32) = 1 from h) (by decide)
set_option maxHeartbeats 4000000 in
set_option maxRecDepth 100000 in
theorem lp_start (hls : l.stackTraces = false) (X : LCx p s m args c K A xs LL b) (hend : ∀ (H : Heap) (locs : List Loc) (ls : Array Slot) (cells slots : Nat), va_S A s.heap H locs → cells ≤ 601024 → slots ≤ 7293034 → W p l e room_1 s m args below meth c H locs cells slots Q (F0 m 1834 ls [])) (hP : va_P K.1 vwCl [] H) (hD : va_D A []) (hS : va_S A s.heap H locs) (hl : lv_has ls 7 [(0, .ref b)]) : W p l e room_1 s m args below meth c H locs 0 0 Q (F0 m 0 ls []) := by
  have X9 := X
  obtain ⟨hx, hb, hml, hown, hts, hK, hZ, hA, hX, hbl, hbA, hLL⟩ := X9
  have hi5 : ∀ w ∈ u_ws RX5 TX5 7, w ∈ wsL_law := by decide +kernel
  have hi6 : ∀ w ∈ u_ws RX6 TX6 14, w ∈ wsL_law := by decide +kernel
  refine va_new (ci := 5) (fs := [.null, .null, .null, .null, .null, .null, .null]) (C := RX5) (T := TX5) (N := 7) hx hb hts hi5 tyX5 tyX5_ok hown (hts (.classLink RL 8 RX5) (by decide +kernel)) (hts (.instantiable RX5 7) (by decide +kernel)) (hts (.initialized RX5) (by decide +kernel)) hK hP hD hS hA rfl (fun j hj => by rcases (show j = 0 ∨ j = 1 ∨ j = 2 ∨ j = 3 ∨ j = 4 ∨ j = 5 ∨ j = 6 by omega) with rfl | rfl | rfl | rfl | rfl | rfl | rfl <;> rfl) (Nat.le_of_ble_eq_true rfl) (Nat.le_of_ble_eq_true rfl) dL_law_0 (fun x H hP hD hS => ?_)
  have hP : va_P K.1 vwCl ([(x, .inr (5, [.null, .null, .null, .null, .null, .null, .null]))] ++ []) H := hP
  have hD : va_D A ([(x, .inr (5, [.null, .null, .null, .null, .null, .null, .null]))] ++ []) := hD
  refine lv_dup hx hb dL_law_3 rfl ?_
  refine ps_I (As := []) (rest := [.ref x]) (wc := [(x, .inr (5, [.null, .null, .null, .null, .null, .null, .null]))]) (wr := []) ⟨hx, hb, hml, hown, hts⟩ (c_X5_init l K x H.size) (cwI 0 hts gL_law_X5_init rfl rfl rfl (hts (.initialized RX5) (by decide +kernel)) (hts (.methodLink RL 99 yX5_init) (by decide +kernel)) (hts (.instanceMethod yX5_init) (by decide +kernel)) rfl (by decide +kernel) ⟨Nat.le_of_ble_eq_true rfl, Nat.le_of_ble_eq_true rfl⟩) hK hP hD hS hZ hA (List.Perm.refl _) (fun u => u) (fun u => by rw [List.append_nil]) rfl hl.1 rfl (Nat.le_of_ble_eq_true rfl) (Nat.le_of_ble_eq_true rfl) (Nat.le_of_ble_eq_true rfl) dL_law_4 (fun u9 H locs hq hP hD hS => ?_)
  obtain ⟨tx, txa, ho, hoa, ca, caa, tr, th, tha, hi, qs, hs, as, sl, sh, sa, sv, hpm⟩ := hq
  have hP := P_perm hpm hP
  have hD := D_perm hpm hD
  refine lv_astore_n (lv' := [(1, .ref x), (0, .ref b)]) hx hb dL_law_7 rfl hl (by decide) rfl (fun ls hl => ?_)
  refine va_new (ci := 6) (fs := [.null, .null, .null, .int (0 : Int32), .null, .null, .null, .int (0 : Int32), .int (0 : Int32), .null, .null, .null, .int (0 : Int32), .int (0 : Int32)]) (C := RX6) (T := TX6) (N := 14) hx hb hts hi6 tyX6 tyX6_ok hown (hts (.classLink RL 100 RX6) (by decide +kernel)) (hts (.instantiable RX6 14) (by decide +kernel)) (hts (.initialized RX6) (by decide +kernel)) hK hP hD hS hA rfl (fun j hj => by rcases (show j = 0 ∨ j = 1 ∨ j = 2 ∨ j = 3 ∨ j = 4 ∨ j = 5 ∨ j = 6 ∨ j = 7 ∨ j = 8 ∨ j = 9 ∨ j = 10 ∨ j = 11 ∨ j = 12 ∨ j = 13 by omega) with rfl | rfl | rfl | rfl | rfl | rfl | rfl | rfl | rfl | rfl | rfl | rfl | rfl | rfl <;> rfl) (Nat.le_of_ble_eq_true rfl) (Nat.le_of_ble_eq_true rfl) dL_law_8 (fun y H hP hD hS => ?_)
  refine lv_dup hx hb dL_law_11 rfl ?_
  refine pw_I (As := []) (rest := [.ref y]) (wc := [(y, .inr (6, [.null, .null, .null, .int (0 : Int32), .null, .null, .null, .int (0 : Int32), .int (0 : Int32), .null, .null, .null, .int (0 : Int32), .int (0 : Int32)]))]) ⟨hx, hb, hml, hown, hts⟩ (c_X6_init l K y H.size) (cwI 0 hts gL_law_X6_init rfl rfl rfl (hts (.initialized RX6) (by decide +kernel)) (hts (.methodLink RL 102 yX6_init) (by decide +kernel)) (hts (.instanceMethod yX6_init) (by decide +kernel)) rfl (by decide +kernel) ⟨Nat.le_of_ble_eq_true rfl, Nat.le_of_ble_eq_true rfl⟩) hK hP hD hS hA List.perm_append_comm (fun u => catL [[(x, .inr (5, [.ref tx, .ref ho, .ref ca, .ref tr, .ref hi, .ref sl, .ref sv]))], tw K tx txa hZr, hw K ho hoa hEmp, cw K ca caa hZr, [(tr, .inr (4, [.ref th]))], hw K th tha hEmp, [(hi, .inr (1, [.ref qs, .int (nI 0), .int (nI 0)]))], [(qs, aQ K 14 (fun j => some (hs j)))], [(sl, aQ K 2 (fun j => some (sh j)))], [(sv, aZ K 2 (fun _ => 0))], hwR K hs as (fun _ => hEmp) 14, hwR K sh sa (fun _ => hEmp) 2] ++ mw K y u (hrow hZr 0 mEmp)) (fun _ => List.perm_append_comm) rfl hl.1 rfl (Nat.le_of_ble_eq_true rfl) (Nat.le_of_ble_eq_true rfl) (Nat.le_of_ble_eq_true rfl) dL_law_12 (fun ya H locs _ hP hD hS => ?_)
  refine lv_astore_n (lv' := [(2, .ref y), (1, .ref x), (0, .ref b)]) hx hb dL_law_15 rfl hl (by decide) rfl (fun ls hl => ?_)
  refine lv_iconst (v := (1 : Int32)) hx hb dL_law_16 (by decide) ?_
  refine xl_new hx hb (hts (.arrayClass .long) (by decide +kernel)) hK hP hD hS hA 1 rfl (by decide) (Nat.le_of_ble_eq_true rfl) (Nat.le_of_ble_eq_true rfl) dL_law_17 (fun o H hP hD hS => ?_)
  refine lv_astore_n (lv' := [(3, .ref o), (2, .ref y), (1, .ref x), (0, .ref b)]) hx hb dL_law_19 rfl hl (by decide) rfl (fun ls hl => ?_)
  refine lv_iconst (v := nI 0) hx hb dL_law_20 (by decide) ?_
  refine lv_istore (lv' := [(4, .int (nI 0)), (3, .ref o), (2, .ref y), (1, .ref x), (0, .ref b)]) hx hb dL_law_21 hl (by decide) rfl (fun ls hl => ?_)
  refine W.widen (k := 400 + 0) (n := 20000 + 6 * 0) (Nat.le_of_ble_eq_true rfl) (Nat.le_of_ble_eq_true rfl) ?_
  obtain ⟨a, ha⟩ : ∃ a : LAd, a = ((fun k => if k = 0 then x else if k = 1 then tx else if k = 2 then ho else if k = 3 then ca else if k = 4 then tr else if k = 5 then th else if k = 6 then hi else if k = 7 then qs else if k = 8 then sl else if k = 9 then sv else if k = 10 then o else y), (fun k => if k = 0 then txa else if k = 1 then hoa else if k = 2 then caa else if k = 3 then tha else if k = 4 then hs else if k = 5 then sh else ya), (fun k => if k = 0 then as else sa)) := ⟨_, rfl⟩
  have e1 : a.x = x := by rw [ha]; rfl
  have e2 : a.tx = tx := by rw [ha]; rfl
  have e3 : a.ho = ho := by rw [ha]; rfl
  have e4 : a.ca = ca := by rw [ha]; rfl
  have e5 : a.tr = tr := by rw [ha]; rfl
  have e6 : a.th = th := by rw [ha]; rfl
  have e7 : a.hi = hi := by rw [ha]; rfl
  have e8 : a.qs = qs := by rw [ha]; rfl
  have e9 : a.sl = sl := by rw [ha]; rfl
  have e10 : a.sv = sv := by rw [ha]; rfl
  have e11 : a.o = o := by rw [ha]; rfl
  have e12 : a.y = y := by rw [ha]; rfl
  have f1 : a.txa = txa := by rw [ha]; rfl
  have f2 : a.hoa = hoa := by rw [ha]; rfl
  have f3 : a.caa = caa := by rw [ha]; rfl
  have f4 : a.tha = tha := by rw [ha]; rfl
  have f5 : a.hs = hs := by rw [ha]; rfl
  have f6 : a.sh = sh := by rw [ha]; rfl
  have f7 : a.ya = ya := by rw [ha]; rfl
  have h1 : a.as = as := by rw [ha]; rfl
  have h2 : a.sa = sa := by rw [ha]; rfl
  clear ha
  subst e1 e2 e3 e4 e5 e6 e7 e8 e9 e10 e11 e12 f1 f2 f3 f4 f5 f6 f7 h1 h2
  have hP := P_perm (perm_last (LWl K a hZr hEmp hZr hEmp (hrow hZr 0 mEmp) 0 0 (fun _ => hEmp) (fun _ => hEmp) (fun _ => 0) (fun _ => 0)) 14 rfl [1, 2, 3, 4, 5, 6, 7, 8, 9, 10, 11, 12] [13] [0] (by decide)).symm hP
  have hD := D_perm (perm_last (LWl K a hZr hEmp hZr hEmp (hrow hZr 0 mEmp) 0 0 (fun _ => hEmp) (fun _ => hEmp) (fun _ => 0) (fun _ => 0)) 14 rfl [1, 2, 3, 4, 5, 6, 7, 8, 9, 10, 11, 12] [13] [0] (by decide)).symm hD
  exact lp_loop hls X hend (LL + 1) 0 (by omega) (Nat.zero_le _) hZr hEmp hZr hEmp (hrow hZr 0 mEmp) 0 0 (fun _ => hEmp) (fun _ => hEmp) (fun _ => 0) 0 0 0 (fun _ => 0) (fun _ => 0) H locs ls LI_0 hP hD hS (lv_sub hl [4, 3, 2, 1, 0] rfl)
end LST

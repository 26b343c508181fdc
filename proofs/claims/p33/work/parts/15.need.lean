/-! what calls need -/
def cN (x : Int32) : Nat := x.toNatClampNeg
theorem cN_nI {n : Nat} (h : n < 2 ^ 31) : cN (nI n) = n := nI_clamp h
theorem idx_cN {x y : Int32} {P : Nat} (hy : y = nI P) (hP : P ≤ 10) (h : 0 ≤ x ∧ x < y) : x = nI (cN x) ∧ cN x < P := by
  obtain ⟨q, hq, e⟩ := idx_of hy hP h
  have e2 : cN x = q := nI_cl e (by omega)
  rw [e2]
  exact ⟨e, hq⟩
theorem rng_cN {v : Int32} {lo hi : Nat} (h : nI lo ≤ v ∧ v ≤ nI hi) (hh : lo < 2 ^ 31 ∧ hi < 2 ^ 31) : v = nI (cN v) ∧ lo ≤ cN v ∧ cN v ≤ hi := by
  have h0 : ¬ v < 0 := by
    intro z
    have z1 := Int32.le_iff_toInt_le.mp h.1
    have z2 := Int32.lt_iff_toInt_lt.mp z
    rw [nI_toInt hh.1] at z1
    have z3 : (0 : Int32).toInt = 0 := by decide
    omega
  obtain ⟨q, hq, e⟩ := nI_of h0
  have e2 : cN v = q := nI_cl e hq
  rw [e2]
  subst e
  exact ⟨rfl, (nI_leI hh.1 hq).mp h.1, (nI_leI hq hh.2).mp h.2⟩
abbrev isPl (S : HV) (p : Int32) : Prop := 0 ≤ p ∧ p < S 11 0
abbrev isRo (S : HV) (r : Int32) : Prop := 0 ≤ r ∧ r < S 10 0
abbrev inR (v lo hi : Int32) : Prop := lo ≤ v ∧ v ≤ hi

abbrev rm_X5_needRange : Room := { frames := 6, cells := 1, slots := 6, locals := 90 }
set_option maxHeartbeats 4000000 in
set_option maxRecDepth 100000 in
theorem c_X5_needRange (l : Launch) (hls : l.stackTraces = false) (K : KX) (v : Int32) (lo : Int32) (hi : Int32) (sz : Nat) : vx_Met l yX5_needRange wsX5_needRange rm_X5_needRange (va_Pc [.int v, .int lo, .int hi] (xPreS K ([]) sz)) (va_Qv (fun _u : Unit => inR v lo hi) (fun _u t => xPost K (va_A ([]) sz) ([]) t) (va_A ([]) sz)) (xXC K (va_A ([]) sz) (fun (E : String) (_u8 : Unit) => E = exA ∧ ¬ inR v lo hi) (fun _u8 => [])) 1 6 (va_A ([]) sz) := by
  refine xt_startv (cc := cX5_needRange) (maxL := 3) hls (by decide) rfl rfl (Nat.le_of_ble_eq_true rfl) ⟨Nat.le_of_ble_eq_true rfl, Nat.le_of_ble_eq_true rfl, Nat.le_of_ble_eq_true rfl, Nat.le_of_ble_eq_true rfl⟩ ?_
  intro p9 e9 s9 m9 below9 meth9 c9 H locs ls A av9 Q9 hx hb hlocks hml hname hts hown hK hP hD hS hA hsz hZ hend hthr hout hl
  have hown : s9.vm.findClass RX5 = some m9.cls := hown
  have hl : lv_has ls 3 [(0, .int v), (1, .int lo), (2, .int hi)] := hl
  refine lv_iload_n hx hb dX5_needRange_0 rfl (lv_at hl 0 rfl) ?_
  refine lv_iload_n hx hb dX5_needRange_1 rfl (lv_at hl 1 rfl) ?_
  refine lv_icmp_lt (tgt := 10) hx hb dX5_needRange_2 (by decide) (fun c_2 => ?_) (fun c_2 => ?_)
  · skip
    have c_2n := Int32.not_le.mpr c_2
    exact hthr _ _ _ _ 10 115 119 321 _ _ exA "an argument is out of its range" () hP hD hS (Nat.le_of_ble_eq_true rfl) (Nat.le_of_ble_eq_true rfl) (by first | exact ⟨rfl, fun z => absurd z.1 (Int32.not_le.mpr c_2)⟩ | exact ⟨rfl, fun z => c_7 z.2⟩) (by decide) (by decide) (by decide +kernel) (hts (.classLink RX5 115 "java/lang/IllegalArgumentException") (by decide +kernel)) (hts (.initialized "java/lang/IllegalArgumentException") (by decide +kernel)) (fun w9 hw9 => hts w9 (List.mem_cons_of_mem _ (List.mem_append_right _ hw9))) (by decide +kernel) (by decide +kernel) dX5_needRange_10 dX5_needRange_13 (Or.inr ⟨dX5_needRange_14, dX5_needRange_17, dX5_needRange_20⟩) hl.1 (Nat.le_of_ble_eq_true rfl)
  · skip
    have c_2n := Int32.not_lt.mp c_2
    refine lv_iload_n hx hb dX5_needRange_5 rfl (lv_at hl 0 rfl) ?_
    refine lv_iload_n hx hb dX5_needRange_6 rfl (lv_at hl 2 rfl) ?_
    refine lv_icmp_le (tgt := 21) hx hb dX5_needRange_7 (by decide) (fun c_7 => ?_) (fun c_7 => ?_)
    · skip
      have c_7n := Int32.not_lt.mpr c_7
      exact hend _ _ _ _ _ _ () hP hD hS (Nat.le_of_ble_eq_true rfl) (Nat.le_of_ble_eq_true rfl) (by exact ⟨c_2n, c_7⟩) dX5_needRange_21
    · skip
      have c_7n := Int32.not_le.mp c_7
      exact hthr _ _ _ _ 10 115 119 321 _ _ exA "an argument is out of its range" () hP hD hS (Nat.le_of_ble_eq_true rfl) (Nat.le_of_ble_eq_true rfl) (by first | exact ⟨rfl, fun z => absurd z.1 (Int32.not_le.mpr c_2)⟩ | exact ⟨rfl, fun z => c_7 z.2⟩) (by decide) (by decide) (by decide +kernel) (hts (.classLink RX5 115 "java/lang/IllegalArgumentException") (by decide +kernel)) (hts (.initialized "java/lang/IllegalArgumentException") (by decide +kernel)) (fun w9 hw9 => hts w9 (List.mem_cons_of_mem _ (List.mem_append_right _ hw9))) (by decide +kernel) (by decide +kernel) dX5_needRange_10 dX5_needRange_13 (Or.inr ⟨dX5_needRange_14, dX5_needRange_17, dX5_needRange_20⟩) hl.1 (Nat.le_of_ble_eq_true rfl)

abbrev rm_X5_needRole : Room := { frames := 6, cells := 1, slots := 6, locals := 90 }
set_option maxHeartbeats 4000000 in
set_option maxRecDepth 100000 in
theorem c_X5_needRole (l : Launch) (hls : l.stackTraces = false) (K : KX) (x : Nat) (tx : Nat) (ho : Nat) (ca : Nat) (tr : Nat) (hi : Nat) (sl : Nat) (sv : Nat) (r : Int32) (hoa : Nat → Nat) (S : HV) (sz : Nat) : vx_Met l yX5_needRole wsX5_needRole rm_X5_needRole (va_Pc [.ref x, .int r] (xPreS K ([(x, .inr (5, [.ref tx, .ref ho, .ref ca, .ref tr, .ref hi, .ref sl, .ref sv]))] ++ hw K ho hoa S) sz)) (va_Qv (fun _u : Unit => isRo S r) (fun _u t => xPost K (va_A ([(x, .inr (5, [.ref tx, .ref ho, .ref ca, .ref tr, .ref hi, .ref sl, .ref sv]))] ++ hw K ho hoa S) sz) ([(x, .inr (5, [.ref tx, .ref ho, .ref ca, .ref tr, .ref hi, .ref sl, .ref sv]))] ++ hw K ho hoa S) t) (va_A ([(x, .inr (5, [.ref tx, .ref ho, .ref ca, .ref tr, .ref hi, .ref sl, .ref sv]))] ++ hw K ho hoa S) sz)) (xXC K (va_A ([(x, .inr (5, [.ref tx, .ref ho, .ref ca, .ref tr, .ref hi, .ref sl, .ref sv]))] ++ hw K ho hoa S) sz) (fun (E : String) (_u8 : Unit) => E = exI ∧ ¬ isRo S r) (fun _u8 => [(x, .inr (5, [.ref tx, .ref ho, .ref ca, .ref tr, .ref hi, .ref sl, .ref sv]))] ++ hw K ho hoa S)) 1 6 (va_A ([(x, .inr (5, [.ref tx, .ref ho, .ref ca, .ref tr, .ref hi, .ref sl, .ref sv]))] ++ hw K ho hoa S) sz) := by
  refine xt_startv (cc := cX5_needRole) (maxL := 2) hls (by decide) rfl rfl (Nat.le_of_ble_eq_true rfl) ⟨Nat.le_of_ble_eq_true rfl, Nat.le_of_ble_eq_true rfl, Nat.le_of_ble_eq_true rfl, Nat.le_of_ble_eq_true rfl⟩ ?_
  intro p9 e9 s9 m9 below9 meth9 c9 H locs ls A av9 Q9 hx hb hlocks hml hname hts hown hK hP hD hS hA hsz hZ hend hthr hout hl
  have hown : s9.vm.findClass RX5 = some m9.cls := hown
  have hl : lv_has ls 2 [(0, .ref x), (1, .int r)] := hl
  have hi5 : ∀ w ∈ u_ws RX5 TX5 7, w ∈ wsX5_needRole := by decide +kernel
  have lk19 := hts (.fieldLink RX5 19 "StandIns" "house" "LStandIns$House;") (by decide +kernel)
  refine lv_aload_n hx hb dX5_needRole_0 rfl (lv_at hl 0 rfl) ?_
  refine va_get (ci := 5) (v := .ref ho) (C := RX5) (T := TX5) (N := 7) hx hb hts hi5 hown hK hP 0 rfl rfl 1 (by decide) lk19 (fun _ h9 => h9) rfl dX5_needRole_1 ?_
  refine lv_iload_n hx hb dX5_needRole_4 rfl (lv_at hl 1 rfl) ?_
  have hPc := P_sub (ws' := hw K ho hoa S) hP [1, 2, 3, 4, 5, 6, 7, 8, 9, 10, 11] rfl
  refine xr_V (As := [.int r]) (rest := []) ⟨hx, hb, hml, hown, hts⟩ (c_X2_hasRole l K ho hoa S r) (cwV 1 hts gX5_needRole_X2_hasRole rfl rfl rfl (by decide +kernel) ⟨Nat.le_of_ble_eq_true rfl, Nat.le_of_ble_eq_true rfl⟩) hK hPc 0 2 rfl rfl rfl rfl hl.1 rfl (Nat.le_of_ble_eq_true rfl) (Nat.le_of_ble_eq_true rfl) (Nat.le_of_ble_eq_true rfl) dX5_needRole_5 ?_
  refine xb_if_ne (tgt := 22) hx hb dX5_needRole_8 (by decide) (fun c_8 => ?_) (fun c_8 => ?_)
  · skip
    exact hend _ _ _ _ _ _ () hP hD hS (Nat.le_of_ble_eq_true rfl) (Nat.le_of_ble_eq_true rfl) (by exact c_8) dX5_needRole_22
  · skip
    exact hthr _ _ _ _ 11 309 313 311 _ _ exI "there is no such role" () hP hD hS (Nat.le_of_ble_eq_true rfl) (Nat.le_of_ble_eq_true rfl) (by exact ⟨rfl, c_8⟩) (by decide) (by decide) (by decide +kernel) (hts (.classLink RX5 309 "java/lang/IndexOutOfBoundsException") (by decide +kernel)) (hts (.initialized "java/lang/IndexOutOfBoundsException") (by decide +kernel)) (fun w9 hw9 => hts w9 (List.mem_cons_of_mem _ (List.mem_append_right _ hw9))) (by decide +kernel) (by decide +kernel) dX5_needRole_11 dX5_needRole_14 (Or.inr ⟨dX5_needRole_15, dX5_needRole_18, dX5_needRole_21⟩) hl.1 (Nat.le_of_ble_eq_true rfl)

abbrev rm_X5_needPlayer : Room := { frames := 6, cells := 1, slots := 6, locals := 90 }
set_option maxHeartbeats 4000000 in
set_option maxRecDepth 100000 in
theorem c_X5_needPlayer (l : Launch) (hls : l.stackTraces = false) (K : KX) (x : Nat) (tx : Nat) (ho : Nat) (ca : Nat) (tr : Nat) (hi : Nat) (sl : Nat) (sv : Nat) (p : Int32) (hoa : Nat → Nat) (S : HV) (sz : Nat) : vx_Met l yX5_needPlayer wsX5_needPlayer rm_X5_needPlayer (va_Pc [.ref x, .int p] (xPreS K ([(x, .inr (5, [.ref tx, .ref ho, .ref ca, .ref tr, .ref hi, .ref sl, .ref sv]))] ++ hw K ho hoa S) sz)) (va_Qv (fun _u : Unit => isPl S p) (fun _u t => xPost K (va_A ([(x, .inr (5, [.ref tx, .ref ho, .ref ca, .ref tr, .ref hi, .ref sl, .ref sv]))] ++ hw K ho hoa S) sz) ([(x, .inr (5, [.ref tx, .ref ho, .ref ca, .ref tr, .ref hi, .ref sl, .ref sv]))] ++ hw K ho hoa S) t) (va_A ([(x, .inr (5, [.ref tx, .ref ho, .ref ca, .ref tr, .ref hi, .ref sl, .ref sv]))] ++ hw K ho hoa S) sz)) (xXC K (va_A ([(x, .inr (5, [.ref tx, .ref ho, .ref ca, .ref tr, .ref hi, .ref sl, .ref sv]))] ++ hw K ho hoa S) sz) (fun (E : String) (_u8 : Unit) => E = exI ∧ ¬ isPl S p) (fun _u8 => [(x, .inr (5, [.ref tx, .ref ho, .ref ca, .ref tr, .ref hi, .ref sl, .ref sv]))] ++ hw K ho hoa S)) 1 6 (va_A ([(x, .inr (5, [.ref tx, .ref ho, .ref ca, .ref tr, .ref hi, .ref sl, .ref sv]))] ++ hw K ho hoa S) sz) := by
  refine xt_startv (cc := cX5_needPlayer) (maxL := 2) hls (by decide) rfl rfl (Nat.le_of_ble_eq_true rfl) ⟨Nat.le_of_ble_eq_true rfl, Nat.le_of_ble_eq_true rfl, Nat.le_of_ble_eq_true rfl, Nat.le_of_ble_eq_true rfl⟩ ?_
  intro p9 e9 s9 m9 below9 meth9 c9 H locs ls A av9 Q9 hx hb hlocks hml hname hts hown hK hP hD hS hA hsz hZ hend hthr hout hl
  have hown : s9.vm.findClass RX5 = some m9.cls := hown
  have hl : lv_has ls 2 [(0, .ref x), (1, .int p)] := hl
  have hi5 : ∀ w ∈ u_ws RX5 TX5 7, w ∈ wsX5_needPlayer := by decide +kernel
  have lk19 := hts (.fieldLink RX5 19 "StandIns" "house" "LStandIns$House;") (by decide +kernel)
  refine lv_aload_n hx hb dX5_needPlayer_0 rfl (lv_at hl 0 rfl) ?_
  refine va_get (ci := 5) (v := .ref ho) (C := RX5) (T := TX5) (N := 7) hx hb hts hi5 hown hK hP 0 rfl rfl 1 (by decide) lk19 (fun _ h9 => h9) rfl dX5_needPlayer_1 ?_
  refine lv_iload_n hx hb dX5_needPlayer_4 rfl (lv_at hl 1 rfl) ?_
  have hPc := P_sub (ws' := hw K ho hoa S) hP [1, 2, 3, 4, 5, 6, 7, 8, 9, 10, 11] rfl
  refine xr_V (As := [.int p]) (rest := []) ⟨hx, hb, hml, hown, hts⟩ (c_X2_hasPlayer l K ho hoa S p) (cwV 1 hts gX5_needPlayer_X2_hasPlayer rfl rfl rfl (by decide +kernel) ⟨Nat.le_of_ble_eq_true rfl, Nat.le_of_ble_eq_true rfl⟩) hK hPc 0 2 rfl rfl rfl rfl hl.1 rfl (Nat.le_of_ble_eq_true rfl) (Nat.le_of_ble_eq_true rfl) (Nat.le_of_ble_eq_true rfl) dX5_needPlayer_5 ?_
  refine xb_if_ne (tgt := 22) hx hb dX5_needPlayer_8 (by decide) (fun c_8 => ?_) (fun c_8 => ?_)
  · skip
    exact hend _ _ _ _ _ _ () hP hD hS (Nat.le_of_ble_eq_true rfl) (Nat.le_of_ble_eq_true rfl) (by exact c_8) dX5_needPlayer_22
  · skip
    exact hthr _ _ _ _ 11 309 313 317 _ _ exI "there is no such player" () hP hD hS (Nat.le_of_ble_eq_true rfl) (Nat.le_of_ble_eq_true rfl) (by exact ⟨rfl, c_8⟩) (by decide) (by decide) (by decide +kernel) (hts (.classLink RX5 309 "java/lang/IndexOutOfBoundsException") (by decide +kernel)) (hts (.initialized "java/lang/IndexOutOfBoundsException") (by decide +kernel)) (fun w9 hw9 => hts w9 (List.mem_cons_of_mem _ (List.mem_append_right _ hw9))) (by decide +kernel) (by decide +kernel) dX5_needPlayer_11 dX5_needPlayer_14 (Or.inr ⟨dX5_needPlayer_15, dX5_needPlayer_18, dX5_needPlayer_21⟩) hl.1 (Nat.le_of_ble_eq_true rfl)

abbrev rm_X5_needSomeRole : Room := { frames := 6, cells := 1, slots := 6, locals := 90 }
set_option maxHeartbeats 4000000 in
set_option maxRecDepth 100000 in
theorem c_X5_needSomeRole (l : Launch) (hls : l.stackTraces = false) (K : KX) (x : Nat) (tx : Nat) (ho : Nat) (ca : Nat) (tr : Nat) (hi : Nat) (sl : Nat) (sv : Nat) (hoa : Nat → Nat) (S : HV) (sz : Nat) : vx_Met l yX5_needSomeRole wsX5_needSomeRole rm_X5_needSomeRole (va_Pc [.ref x] (xPreS K ([(x, .inr (5, [.ref tx, .ref ho, .ref ca, .ref tr, .ref hi, .ref sl, .ref sv]))] ++ hw K ho hoa S) sz)) (va_Qv (fun _u : Unit => ¬ S 10 0 = 0) (fun _u t => xPost K (va_A ([(x, .inr (5, [.ref tx, .ref ho, .ref ca, .ref tr, .ref hi, .ref sl, .ref sv]))] ++ hw K ho hoa S) sz) ([(x, .inr (5, [.ref tx, .ref ho, .ref ca, .ref tr, .ref hi, .ref sl, .ref sv]))] ++ hw K ho hoa S) t) (va_A ([(x, .inr (5, [.ref tx, .ref ho, .ref ca, .ref tr, .ref hi, .ref sl, .ref sv]))] ++ hw K ho hoa S) sz)) (xXC K (va_A ([(x, .inr (5, [.ref tx, .ref ho, .ref ca, .ref tr, .ref hi, .ref sl, .ref sv]))] ++ hw K ho hoa S) sz) (fun (E : String) (_u8 : Unit) => E = exS ∧ S 10 0 = 0) (fun _u8 => [(x, .inr (5, [.ref tx, .ref ho, .ref ca, .ref tr, .ref hi, .ref sl, .ref sv]))] ++ hw K ho hoa S)) 1 6 (va_A ([(x, .inr (5, [.ref tx, .ref ho, .ref ca, .ref tr, .ref hi, .ref sl, .ref sv]))] ++ hw K ho hoa S) sz) := by
  refine xt_startv (cc := cX5_needSomeRole) (maxL := 1) hls (by decide) rfl rfl (Nat.le_of_ble_eq_true rfl) ⟨Nat.le_of_ble_eq_true rfl, Nat.le_of_ble_eq_true rfl, Nat.le_of_ble_eq_true rfl, Nat.le_of_ble_eq_true rfl⟩ ?_
  intro p9 e9 s9 m9 below9 meth9 c9 H locs ls A av9 Q9 hx hb hlocks hml hname hts hown hK hP hD hS hA hsz hZ hend hthr hout hl
  have hown : s9.vm.findClass RX5 = some m9.cls := hown
  have hl : lv_has ls 1 [(0, .ref x)] := hl
  have hi5 : ∀ w ∈ u_ws RX5 TX5 7, w ∈ wsX5_needSomeRole := by decide +kernel
  have lk19 := hts (.fieldLink RX5 19 "StandIns" "house" "LStandIns$House;") (by decide +kernel)
  refine lv_aload_n hx hb dX5_needSomeRole_0 rfl (lv_at hl 0 rfl) ?_
  refine va_get (ci := 5) (v := .ref ho) (C := RX5) (T := TX5) (N := 7) hx hb hts hi5 hown hK hP 0 rfl rfl 1 (by decide) lk19 (fun _ h9 => h9) rfl dX5_needSomeRole_1 ?_
  have hPc := P_sub (ws' := hw K ho hoa S) hP [1, 2, 3, 4, 5, 6, 7, 8, 9, 10, 11] rfl
  refine xr_V (As := []) (rest := []) ⟨hx, hb, hml, hown, hts⟩ (c_X2_roleCount l K ho hoa S) (cwV 0 hts gX5_needSomeRole_X2_roleCount rfl rfl rfl (by decide +kernel) ⟨Nat.le_of_ble_eq_true rfl, Nat.le_of_ble_eq_true rfl⟩) hK hPc 0 2 rfl rfl rfl rfl hl.1 rfl (Nat.le_of_ble_eq_true rfl) (Nat.le_of_ble_eq_true rfl) (Nat.le_of_ble_eq_true rfl) dX5_needSomeRole_4 ?_
  refine lv_if_ne (tgt := 20) hx hb dX5_needSomeRole_7 (by decide) (fun c_7 => ?_) (fun c_7 => ?_)
  · skip
    exact hend _ _ _ _ _ _ () hP hD hS (Nat.le_of_ble_eq_true rfl) (Nat.le_of_ble_eq_true rfl) (by exact c_7) dX5_needSomeRole_20
  · skip
    exact hthr _ _ _ _ 10 60 64 223 _ _ exS "there are no roles" () hP hD hS (Nat.le_of_ble_eq_true rfl) (Nat.le_of_ble_eq_true rfl) (by exact ⟨rfl, by first | exact c_7 | exact Decidable.not_not.mp c_7⟩) (by decide) (by decide) (by decide +kernel) (hts (.classLink RX5 60 "java/lang/IllegalStateException") (by decide +kernel)) (hts (.initialized "java/lang/IllegalStateException") (by decide +kernel)) (fun w9 hw9 => hts w9 (List.mem_cons_of_mem _ (List.mem_append_right _ hw9))) (by decide +kernel) (by decide +kernel) dX5_needSomeRole_10 dX5_needSomeRole_13 (Or.inl ⟨dX5_needSomeRole_14, dX5_needSomeRole_16, dX5_needSomeRole_19⟩) hl.1 (Nat.le_of_ble_eq_true rfl)

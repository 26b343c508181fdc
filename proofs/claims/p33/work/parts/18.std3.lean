/-! the class's methods: what would be -/
def kWith (S : HV) (p : Int32) : Nat := if isPl S p then 0 else 1

abbrev rm_X5_strength : Room := { frames := 4, cells := 0, slots := 0, locals := 94 }
set_option maxHeartbeats 4000000 in
set_option maxRecDepth 100000 in
theorem c_X5_strength (l : Launch) (K : KX) (x : Nat) (tx : Nat) (ho : Nat) (ca : Nat) (tr : Nat) (hi : Nat) (sl : Nat) (sv : Nat) (hoa : Nat → Nat) (S : HV) (caa : Nat → Nat) (C : HV) (R : Nat) (hR0 : S 10 0 = nI R) (hR0b : R ≤ 6) (P : Nat) (hP0 : S 11 0 = nI P) (hP0b : P ≤ 10) (sz : Nat) : Met l yX5_strength wsX5_strength rm_X5_strength (va_Pc [.ref x] (xPre K ([(x, .inr (5, [.ref tx, .ref ho, .ref ca, .ref tr, .ref hi, .ref sl, .ref sv]))] ++ hw K ho hoa S ++ cw K ca caa C) sz)) (va_Qi (fun (r9 : Int32) (u9 : HV) => r9 = hStr S R P) (fun u9 t => xPost K (va_A ([(x, .inr (5, [.ref tx, .ref ho, .ref ca, .ref tr, .ref hi, .ref sl, .ref sv]))] ++ hw K ho hoa S ++ cw K ca caa C) sz) ([(x, .inr (5, [.ref tx, .ref ho, .ref ca, .ref tr, .ref hi, .ref sl, .ref sv]))] ++ hw K ho hoa S ++ cw K ca caa u9) t) (va_A ([(x, .inr (5, [.ref tx, .ref ho, .ref ca, .ref tr, .ref hi, .ref sl, .ref sv]))] ++ hw K ho hoa S ++ cw K ca caa C) sz)) 0 0 (va_A ([(x, .inr (5, [.ref tx, .ref ho, .ref ca, .ref tr, .ref hi, .ref sl, .ref sv]))] ++ hw K ho hoa S ++ cw K ca caa C) sz) := by
  refine xw_starti (cc := cX5_strength) (maxL := 1) (by decide) rfl (Nat.le_of_ble_eq_true rfl) ?_
  intro p9 e9 s9 m9 below9 meth9 c9 H locs ls A av9 Q9 hx hb hlocks hml hname hts hown hK hP hD hS hA hsz hend hl
  have hown : s9.vm.findClass RX5 = some m9.cls := hown
  have hl : lv_has ls 1 [(0, .ref x)] := hl
  have hi5 : ∀ w ∈ u_ws RX5 TX5 7, w ∈ wsX5_strength := by decide +kernel
  have lk26 := hts (.fieldLink RX5 26 "StandIns" "casting" "LStandIns$Casting;") (by decide +kernel)
  have lk19 := hts (.fieldLink RX5 19 "StandIns" "house" "LStandIns$House;") (by decide +kernel)
  have hfl : frN S P < 1024 := Nat.lt_of_lt_of_le (frN_lt S P) (pw_le hP0b)
  refine lv_aload_n hx hb dX5_strength_0 rfl (lv_at hl 0 rfl) ?_
  refine va_get (ci := 5) (v := .ref ca) (C := RX5) (T := TX5) (N := 7) hx hb hts hi5 hown hK hP 0 rfl rfl 2 (by decide) lk26 (fun _ h9 => h9) rfl dX5_strength_1 ?_
  refine lv_aload_n hx hb dX5_strength_4 rfl (lv_at hl 0 rfl) ?_
  refine va_get (ci := 5) (v := .ref ho) (C := RX5) (T := TX5) (N := 7) hx hb hts hi5 hown hK hP 0 rfl rfl 1 (by decide) lk19 (fun _ h9 => h9) rfl dX5_strength_5 ?_
  refine lv_aload_n hx hb dX5_strength_8 rfl (lv_at hl 0 rfl) ?_
  refine va_get (ci := 5) (v := .ref ho) (C := RX5) (T := TX5) (N := 7) hx hb hts hi5 hown hK hP 0 rfl rfl 1 (by decide) lk19 (fun _ h9 => h9) rfl dX5_strength_9 ?_
  have hPc := P_sub (ws' := hw K ho hoa S) hP [1, 2, 3, 4, 5, 6, 7, 8, 9, 10, 11] rfl
  refine xr_V (As := []) (rest := [.ref ho, .ref ca]) ⟨hx, hb, hml, hown, hts⟩ (c_X2_freePlayers l K ho hoa S P hP0 (by omega)) (cwV 0 hts gX5_strength_X2_freePlayers rfl rfl rfl (by decide +kernel) ⟨Nat.le_of_ble_eq_true rfl, Nat.le_of_ble_eq_true rfl⟩) hK hPc 0 2 rfl rfl rfl rfl hl.1 rfl (Nat.le_of_ble_eq_true rfl) (Nat.le_of_ble_eq_true rfl) (Nat.le_of_ble_eq_true rfl) dX5_strength_12 ?_
  refine xw_Vi (As := [.ref ho, .int (nI (frN S P))]) (rest := []) (wc := cw K ca caa C ++ hw K ho hoa S) (wr := (List.filterMap (fun i => ([(x, .inr (5, [.ref tx, .ref ho, .ref ca, .ref tr, .ref hi, .ref sl, .ref sv]))] ++ hw K ho hoa S ++ cw K ca caa C : va_W)[i]?) ([0] : List Nat))) ⟨hx, hb, hml, hown, hts⟩ (c_X0_seek l K ca caa C ho hoa S (frN S P) (by omega) R hR0 (by omega) P hP0 (by omega) H.size) (cwV 2 hts gX5_strength_X0_seek rfl rfl rfl (by decide +kernel) ⟨Nat.le_of_ble_eq_true rfl, Nat.le_of_ble_eq_true rfl⟩) hK hP hD hS hA [12, 13, 14, 15, 1, 2, 3, 4, 5, 6, 7, 8, 9, 10, 11] [0] [0, 5, 6, 7, 8, 9, 10, 11, 12, 13, 14, 15, 1, 2, 3, 4] rfl rfl rfl (fun C15 => [(x, .inr (5, [.ref tx, .ref ho, .ref ca, .ref tr, .ref hi, .ref sl, .ref sv]))] ++ hw K ho hoa S ++ cw K ca caa C15) (fun _ => rfl) 0 0 rfl rfl rfl rfl hl.1 rfl (Nat.le_of_ble_eq_true rfl) (Nat.le_of_ble_eq_true rfl) (Nat.le_of_ble_eq_true rfl) dX5_strength_15 (fun r15 C15 H locs hq15 hP hD hS => ?_)
  have hP : va_P K.1 vwCl ([(x, .inr (5, [.ref tx, .ref ho, .ref ca, .ref tr, .ref hi, .ref sl, .ref sv]))] ++ hw K ho hoa S ++ cw K ca caa C15) H := hP
  have hD : va_D A ([(x, .inr (5, [.ref tx, .ref ho, .ref ca, .ref tr, .ref hi, .ref sl, .ref sv]))] ++ hw K ho hoa S ++ cw K ca caa C15) := hD
  obtain ⟨rfl, hC15⟩ := hq15
  exact hend _ _ _ _ _ _ _ C15 hP hD hS (Nat.le_of_ble_eq_true rfl) (Nat.le_of_ble_eq_true rfl) (by rfl) dX5_strength_18

abbrev rm_X5_without : Room := { frames := 7, cells := 4, slots := 24, locals := 111 }
set_option maxHeartbeats 4000000 in
set_option maxRecDepth 100000 in
theorem c_X5_without (l : Launch) (hls : l.stackTraces = false) (K : KX) (x : Nat) (tx : Nat) (ho : Nat) (ca : Nat) (tr : Nat) (hi : Nat) (sl : Nat) (sv : Nat) (p : Int32) (hoa : Nat → Nat) (S : HV) (caa : Nat → Nat) (C : HV) (R : Nat) (hR0 : S 10 0 = nI R) (hR0b : R ≤ 6) (P : Nat) (hP0 : S 11 0 = nI P) (hP0b : P ≤ 10) (sz : Nat) : vx_Met l yX5_without wsX5_without rm_X5_without (va_Pc [.ref x, .int p] (xPreS K ([(x, .inr (5, [.ref tx, .ref ho, .ref ca, .ref tr, .ref hi, .ref sl, .ref sv]))] ++ hw K ho hoa S ++ cw K ca caa C) sz)) (va_Qi (fun (r9 : Int32) (u9 : HV) => kWith S p = 0 ∧ r9 = dpS (wFr S (frB S (cN p) P)) R P R 0) (fun u9 t => xPost K (va_A ([(x, .inr (5, [.ref tx, .ref ho, .ref ca, .ref tr, .ref hi, .ref sl, .ref sv]))] ++ hw K ho hoa S ++ cw K ca caa C) sz) ([(x, .inr (5, [.ref tx, .ref ho, .ref ca, .ref tr, .ref hi, .ref sl, .ref sv]))] ++ hw K ho hoa S ++ cw K ca caa u9) t) (va_A ([(x, .inr (5, [.ref tx, .ref ho, .ref ca, .ref tr, .ref hi, .ref sl, .ref sv]))] ++ hw K ho hoa S ++ cw K ca caa C) sz)) (xXC K (va_A ([(x, .inr (5, [.ref tx, .ref ho, .ref ca, .ref tr, .ref hi, .ref sl, .ref sv]))] ++ hw K ho hoa S ++ cw K ca caa C) sz) (fun (E : String) (_u8 : Unit) => (kWith S p = 1 ∧ E = exI)) (fun _u8 => [(x, .inr (5, [.ref tx, .ref ho, .ref ca, .ref tr, .ref hi, .ref sl, .ref sv]))] ++ hw K ho hoa S ++ cw K ca caa C)) 4 24 (va_A ([(x, .inr (5, [.ref tx, .ref ho, .ref ca, .ref tr, .ref hi, .ref sl, .ref sv]))] ++ hw K ho hoa S ++ cw K ca caa C) sz) := by
  refine xt_starti (cc := cX5_without) (maxL := 2) hls (by decide) rfl rfl (Nat.le_of_ble_eq_true rfl) ⟨Nat.le_of_ble_eq_true rfl, Nat.le_of_ble_eq_true rfl, Nat.le_of_ble_eq_true rfl, Nat.le_of_ble_eq_true rfl⟩ ?_
  intro p9 e9 s9 m9 below9 meth9 c9 H locs ls A av9 Q9 hx hb hlocks hml hname hts hown hK hP hD hS hA hsz hZ hend hthr hout hl
  have hown : s9.vm.findClass RX5 = some m9.cls := hown
  have hl : lv_has ls 2 [(0, .ref x), (1, .int p)] := hl
  have hi5 : ∀ w ∈ u_ws RX5 TX5 7, w ∈ wsX5_without := by decide +kernel
  have lk26 := hts (.fieldLink RX5 26 "StandIns" "casting" "LStandIns$Casting;") (by decide +kernel)
  have lk19 := hts (.fieldLink RX5 19 "StandIns" "house" "LStandIns$House;") (by decide +kernel)
  have hfb : frB S (cN p) P < 1024 := Nat.lt_of_lt_of_le (frB_lt S (cN p) P) (pw_le hP0b)
  refine lv_aload_n hx hb dX5_without_0 rfl (lv_at hl 0 rfl) ?_
  refine lv_iload_n hx hb dX5_without_1 rfl (lv_at hl 1 rfl) ?_
  have hpm2 : ([(x, .inr (5, [.ref tx, .ref ho, .ref ca, .ref tr, .ref hi, .ref sl, .ref sv]))] ++ hw K ho hoa S ++ cw K ca caa C : va_W).Perm (([(x, .inr (5, [.ref tx, .ref ho, .ref ca, .ref tr, .ref hi, .ref sl, .ref sv]))] ++ hw K ho hoa S : va_W) ++ (cw K ca caa C : va_W)) := perm_split ([[(x, .inr (5, [.ref tx, .ref ho, .ref ca, .ref tr, .ref hi, .ref sl, .ref sv]))], hw K ho hoa S, cw K ca caa C] : List va_W) 3 rfl [0, 1] [2] (by decide)
  refine xt_Vv (As := [.int p]) (rest := []) (wc := [(x, .inr (5, [.ref tx, .ref ho, .ref ca, .ref tr, .ref hi, .ref sl, .ref sv]))] ++ hw K ho hoa S) (wr := cw K ca caa C) ⟨hx, hb, hml, hown, hts⟩ (c_X5_needPlayer l hls K x tx ho ca tr hi sl sv p hoa S H.size) (cwV 1 hts gX5_without_X5_needPlayer rfl rfl rfl (by decide +kernel) ⟨Nat.le_of_ble_eq_true rfl, Nat.le_of_ble_eq_true rfl⟩) hK hP hD hS hZ hA hpm2 0 5 rfl rfl rfl rfl hl.1 rfl (Nat.le_of_ble_eq_true rfl) (Nat.le_of_ble_eq_true rfl) (Nat.le_of_ble_eq_true rfl) dX5_without_2 (fun E9 ce9 q9 H locs hpx2 hP hD hS hce9 hcv9 hcl9 => hout _ _ _ _ _ _ _ E9 ce9 q9 () hP hD hS (Nat.le_of_ble_eq_true rfl) (Nat.le_of_ble_eq_true rfl) (by exact ⟨if_neg hpx2.2, hpx2.1⟩) hce9 hcv9 hcl9) (fun H locs hq2 hP hD hS => ?_)
  have hP : va_P K.1 vwCl ([(x, .inr (5, [.ref tx, .ref ho, .ref ca, .ref tr, .ref hi, .ref sl, .ref sv]))] ++ hw K ho hoa S ++ cw K ca caa C) H := hP
  have hD : va_D A ([(x, .inr (5, [.ref tx, .ref ho, .ref ca, .ref tr, .ref hi, .ref sl, .ref sv]))] ++ hw K ho hoa S ++ cw K ca caa C) := hD
  have hn2 := idx_cN hP0 (by omega) hq2
  refine lv_aload_n hx hb dX5_without_5 rfl (lv_at hl 0 rfl) ?_
  refine va_get (ci := 5) (v := .ref ca) (C := RX5) (T := TX5) (N := 7) hx hb hts hi5 hown hK hP 0 rfl rfl 2 (by decide) lk26 (fun _ h9 => h9) rfl dX5_without_6 ?_
  refine lv_aload_n hx hb dX5_without_9 rfl (lv_at hl 0 rfl) ?_
  refine va_get (ci := 5) (v := .ref ho) (C := RX5) (T := TX5) (N := 7) hx hb hts hi5 hown hK hP 0 rfl rfl 1 (by decide) lk19 (fun _ h9 => h9) rfl dX5_without_10 ?_
  refine lv_aload_n hx hb dX5_without_13 rfl (lv_at hl 0 rfl) ?_
  refine va_get (ci := 5) (v := .ref ho) (C := RX5) (T := TX5) (N := 7) hx hb hts hi5 hown hK hP 0 rfl rfl 1 (by decide) lk19 (fun _ h9 => h9) rfl dX5_without_14 ?_
  refine lv_iload_n hx hb dX5_without_17 rfl (lv_at hl 1 rfl) ?_
  rw [show p = nI (cN p) from hn2.1]
  have hPc := P_sub (ws' := hw K ho hoa S) hP [1, 2, 3, 4, 5, 6, 7, 8, 9, 10, 11] rfl
  refine xr_V (As := [.int (nI (cN p))]) (rest := [.ref ho, .ref ca]) ⟨hx, hb, hml, hown, hts⟩ (c_X2_freePlayersBut l K ho hoa S (cN p) (by omega) P hP0 (by omega)) (cwV 1 hts gX5_without_X2_freePlayersBut rfl rfl rfl (by decide +kernel) ⟨Nat.le_of_ble_eq_true rfl, Nat.le_of_ble_eq_true rfl⟩) hK hPc 0 2 rfl rfl rfl rfl hl.1 rfl (Nat.le_of_ble_eq_true rfl) (Nat.le_of_ble_eq_true rfl) (Nat.le_of_ble_eq_true rfl) dX5_without_18 ?_
  have hpm21 : ([(x, .inr (5, [.ref tx, .ref ho, .ref ca, .ref tr, .ref hi, .ref sl, .ref sv]))] ++ hw K ho hoa S ++ cw K ca caa C : va_W).Perm ((cw K ca caa C ++ hw K ho hoa S : va_W) ++ ([(x, .inr (5, [.ref tx, .ref ho, .ref ca, .ref tr, .ref hi, .ref sl, .ref sv]))] : va_W)) := perm_split ([[(x, .inr (5, [.ref tx, .ref ho, .ref ca, .ref tr, .ref hi, .ref sl, .ref sv]))], hw K ho hoa S, cw K ca caa C] : List va_W) 3 rfl [2, 1] [0] (by decide)
  have hpn21 : ∀ (C21 : HV), ((cw K ca caa C21 ++ hw K ho hoa S : va_W) ++ ([(x, .inr (5, [.ref tx, .ref ho, .ref ca, .ref tr, .ref hi, .ref sl, .ref sv]))] : va_W)).Perm ([(x, .inr (5, [.ref tx, .ref ho, .ref ca, .ref tr, .ref hi, .ref sl, .ref sv]))] ++ hw K ho hoa S ++ cw K ca caa C21) := fun C21 => (perm_split ([[(x, .inr (5, [.ref tx, .ref ho, .ref ca, .ref tr, .ref hi, .ref sl, .ref sv]))], hw K ho hoa S, cw K ca caa C21] : List va_W) 3 rfl [2, 1] [0] (by decide)).symm
  refine pw_Vi (As := [.ref ho, .int (nI (frB S (cN p) P))]) (rest := []) (wc := cw K ca caa C ++ hw K ho hoa S) (wr := [(x, .inr (5, [.ref tx, .ref ho, .ref ca, .ref tr, .ref hi, .ref sl, .ref sv]))]) ⟨hx, hb, hml, hown, hts⟩ (c_X0_seek l K ca caa C ho hoa S (frB S (cN p) P) (by omega) R hR0 (by omega) P hP0 (by omega) H.size) (cwV 2 hts gX5_without_X0_seek rfl rfl rfl (by decide +kernel) ⟨Nat.le_of_ble_eq_true rfl, Nat.le_of_ble_eq_true rfl⟩) hK hP hD hS hA hpm21 (fun C21 => [(x, .inr (5, [.ref tx, .ref ho, .ref ca, .ref tr, .ref hi, .ref sl, .ref sv]))] ++ hw K ho hoa S ++ cw K ca caa C21) hpn21 0 0 rfl rfl rfl rfl hl.1 rfl (Nat.le_of_ble_eq_true rfl) (Nat.le_of_ble_eq_true rfl) (Nat.le_of_ble_eq_true rfl) dX5_without_21 (fun r21 C21 H locs hq21 hP hD hS => ?_)
  have hP : va_P K.1 vwCl ([(x, .inr (5, [.ref tx, .ref ho, .ref ca, .ref tr, .ref hi, .ref sl, .ref sv]))] ++ hw K ho hoa S ++ cw K ca caa C21) H := hP
  have hD : va_D A ([(x, .inr (5, [.ref tx, .ref ho, .ref ca, .ref tr, .ref hi, .ref sl, .ref sv]))] ++ hw K ho hoa S ++ cw K ca caa C21) := hD
  obtain ⟨rfl, hC21⟩ := hq21
  exact hend _ _ _ _ _ _ _ C21 hP hD hS (Nat.le_of_ble_eq_true rfl) (Nat.le_of_ble_eq_true rfl) (by exact ⟨if_pos hq2, rfl⟩) dX5_without_24

/-! the model: what its reading methods answer -/
abbrev mFree (N : Nat → Int32) (p : Nat) : Prop := N (50 + p) ≤ N 0 ∧ N (40 + p) < N 5
abbrev mW (N : Nat → Int32) (p r : Nat) : Int32 := if N (70 + 6 * p + r) = 0 then 0 else N (12 + r) * (if N (18 + r) = nI p then N (70 + 6 * p + r) + 10 else N (70 + 6 * p + r))
abbrev mPay (N : Nat → Int32) (p r : Nat) : Int32 := (N 6 + N 7 * N (12 + r) + (if N (18 + r) = nI p then 0 else N 8)) + (if N 10 = 1 then (if N (24 + r) = nI p then 0 else N 9) else 0)

abbrev rm_X6_in : Room := { frames := 0, cells := 0, slots := 0, locals := 0 }
set_option maxHeartbeats 4000000 in
set_option maxRecDepth 100000 in
theorem c_X6_in (l : Launch) (K : KX) (v : Int32) (lo : Int32) (hi : Int32) : Met l yX6_in wsX6_in rm_X6_in (va_Pc [.int v, .int lo, .int hi] (xRead K ([]))) (vp_Si (fun r9 => r9 = bI (lo ≤ v ∧ v ≤ hi))) 0 0 (fun _ => False) := by
  refine xr_startz (cc := cX6_in) (maxL := 3) (ret := .boolean) (by decide) rfl (Nat.le_of_ble_eq_true rfl) ?_
  intro p9 e9 s9 m9 below9 meth9 c9 H ls av9 Q9 hx hb hlocks hml hts hown hK hP hend hl
  have hown : s9.vm.findClass RX6 = some m9.cls := hown
  have hl : lv_has ls 3 [(0, .int v), (1, .int lo), (2, .int hi)] := hl
  refine lv_iload_n hx hb dX6_in_0 rfl (lv_at hl 0 rfl) ?_
  refine lv_iload_n hx hb dX6_in_1 rfl (lv_at hl 1 rfl) ?_
  refine lv_icmp_lt (tgt := 14) hx hb dX6_in_2 (by decide) (fun c_2 => ?_) (fun c_2 => ?_)
  · skip
    have c_2n := Int32.not_le.mpr c_2
    refine lv_iconst (v := (0 : Int32)) hx hb dX6_in_14 (by decide) ?_
    exact hend _ _ _ (by decide) (by first | rfl | (simp [bI, c_2, c_2n]; done) | omega) dX6_in_15
  · skip
    have c_2n := Int32.not_lt.mp c_2
    refine lv_iload_n hx hb dX6_in_5 rfl (lv_at hl 0 rfl) ?_
    refine lv_iload_n hx hb dX6_in_6 rfl (lv_at hl 2 rfl) ?_
    refine lv_icmp_gt (tgt := 14) hx hb dX6_in_7 (by decide) (fun c_7 => ?_) (fun c_7 => ?_)
    · skip
      have c_7n := Int32.not_le.mpr c_7
      refine lv_iconst (v := (0 : Int32)) hx hb dX6_in_14 (by decide) ?_
      exact hend _ _ _ (by decide) (by first | rfl | (simp [bI, c_2, c_2n, c_7, c_7n]; done) | omega) dX6_in_15
    · skip
      have c_7n := Int32.not_lt.mp c_7
      refine lv_iconst (v := (1 : Int32)) hx hb dX6_in_10 (by decide) ?_
      refine lv_goto (tgt := 15) hx hb dX6_in_11 (by decide) ?_
      exact hend _ _ _ (by decide) (by first | rfl | (simp [bI, c_2, c_2n, c_7, c_7n]; done) | omega) dX6_in_15

abbrev rm_X6_isRole : Room := { frames := 1, cells := 0, slots := 0, locals := 22 }
set_option maxHeartbeats 4000000 in
set_option maxRecDepth 100000 in
theorem c_X6_isRole (l : Launch) (K : KX) (q : Nat) (N : Nat → Int32) (r : Int32) (R : Nat) (hR0 : N 3 = nI R) (hR0b : R ≤ 6) : Met l yX6_isRole wsX6_isRole rm_X6_isRole (va_Pc [.ref q, .int r] (xRead K ([(q, aI K 190 N)]))) (vp_Si (fun r9 => r9 = bI (0 ≤ r ∧ r < N 3))) 0 0 (fun _ => False) := by
  refine xr_startz (cc := cX6_isRole) (maxL := 2) (ret := .boolean) (by decide) rfl (Nat.le_of_ble_eq_true rfl) ?_
  intro p9 e9 s9 m9 below9 meth9 c9 H ls av9 Q9 hx hb hlocks hml hts hown hK hP hend hl
  have hown : s9.vm.findClass RX6 = some m9.cls := hown
  have hl : lv_has ls 2 [(0, .ref q), (1, .int r)] := hl
  refine lv_iload_n hx hb dX6_isRole_0 rfl (lv_at hl 1 rfl) ?_
  refine lv_iconst (v := (0 : Int32)) hx hb dX6_isRole_1 (by decide) ?_
  refine lv_aload_n hx hb dX6_isRole_2 rfl (lv_at hl 0 rfl) ?_
  refine lv_iconst (v := (3 : Int32)) hx hb dX6_isRole_3 (by decide) ?_
  refine xi_ld hx hb hK hP 0 (f := N) rfl 3 rfl (by omega) (by decide) dX6_isRole_4 ?_
  refine lv_iconst (v := (1 : Int32)) hx hb dX6_isRole_5 (by decide) ?_
  refine lv_isub hx hb dX6_isRole_6 ?_
  have hPc := P_sub (ws' := []) hP [] rfl
  refine xr_S (As := [.int r, .int (0 : Int32), .int ((N 3) - (1 : Int32))]) (rest := []) ⟨hx, hb, hml, hown, hts⟩ (c_X6_in l K r (0 : Int32) ((N 3) - (1 : Int32))) (va_cwS 3 hts gX6_isRole_X6_in rfl rfl rfl (by decide +kernel) ⟨Nat.le_of_ble_eq_true rfl, Nat.le_of_ble_eq_true rfl⟩) hK hPc rfl hl.1 rfl (Nat.le_of_ble_eq_true rfl) (Nat.le_of_ble_eq_true rfl) (Nat.le_of_ble_eq_true rfl) dX6_isRole_7 ?_
  exact hend _ _ _ (bI_narrow) (by exact bI_cong (and_congr_right fun _ => nn_pred hR0 (by omega))) dX6_isRole_10

abbrev rm_X6_isPlayer : Room := { frames := 1, cells := 0, slots := 0, locals := 22 }
set_option maxHeartbeats 4000000 in
set_option maxRecDepth 100000 in
theorem c_X6_isPlayer (l : Launch) (K : KX) (q : Nat) (N : Nat → Int32) (p : Int32) (P : Nat) (hP0 : N 4 = nI P) (hP0b : P ≤ 10) : Met l yX6_isPlayer wsX6_isPlayer rm_X6_isPlayer (va_Pc [.ref q, .int p] (xRead K ([(q, aI K 190 N)]))) (vp_Si (fun r9 => r9 = bI (0 ≤ p ∧ p < N 4))) 0 0 (fun _ => False) := by
  refine xr_startz (cc := cX6_isPlayer) (maxL := 2) (ret := .boolean) (by decide) rfl (Nat.le_of_ble_eq_true rfl) ?_
  intro p9 e9 s9 m9 below9 meth9 c9 H ls av9 Q9 hx hb hlocks hml hts hown hK hP hend hl
  have hown : s9.vm.findClass RX6 = some m9.cls := hown
  have hl : lv_has ls 2 [(0, .ref q), (1, .int p)] := hl
  refine lv_iload_n hx hb dX6_isPlayer_0 rfl (lv_at hl 1 rfl) ?_
  refine lv_iconst (v := (0 : Int32)) hx hb dX6_isPlayer_1 (by decide) ?_
  refine lv_aload_n hx hb dX6_isPlayer_2 rfl (lv_at hl 0 rfl) ?_
  refine lv_iconst (v := (4 : Int32)) hx hb dX6_isPlayer_3 (by decide) ?_
  refine xi_ld hx hb hK hP 0 (f := N) rfl 4 rfl (by omega) (by decide) dX6_isPlayer_4 ?_
  refine lv_iconst (v := (1 : Int32)) hx hb dX6_isPlayer_5 (by decide) ?_
  refine lv_isub hx hb dX6_isPlayer_6 ?_
  have hPc := P_sub (ws' := []) hP [] rfl
  refine xr_S (As := [.int p, .int (0 : Int32), .int ((N 4) - (1 : Int32))]) (rest := []) ⟨hx, hb, hml, hown, hts⟩ (c_X6_in l K p (0 : Int32) ((N 4) - (1 : Int32))) (va_cwS 3 hts gX6_isPlayer_X6_in rfl rfl rfl (by decide +kernel) ⟨Nat.le_of_ble_eq_true rfl, Nat.le_of_ble_eq_true rfl⟩) hK hPc rfl hl.1 rfl (Nat.le_of_ble_eq_true rfl) (Nat.le_of_ble_eq_true rfl) (Nat.le_of_ble_eq_true rfl) dX6_isPlayer_7 ?_
  exact hend _ _ _ (bI_narrow) (by exact bI_cong (and_congr_right fun _ => nn_pred hP0 (by omega))) dX6_isPlayer_10

abbrev rm_X6_readyFor : Room := { frames := 0, cells := 0, slots := 0, locals := 0 }
set_option maxHeartbeats 4000000 in
set_option maxRecDepth 100000 in
theorem c_X6_readyFor (l : Launch) (K : KX) (q : Nat) (N : Nat → Int32) (p : Nat) (hp : p < 10) (r : Nat) (hr : r < 6) : Met l yX6_readyFor wsX6_readyFor rm_X6_readyFor (va_Pc [.ref q, .int (nI p), .int (nI r)] (xRead K ([(q, aI K 190 N)]))) (vp_Si (fun r9 => r9 = N (70 + 6 * p + r))) 0 0 (fun _ => False) := by
  refine xr_starti (cc := cX6_readyFor) (maxL := 3) (by decide) rfl (Nat.le_of_ble_eq_true rfl) ?_
  intro p9 e9 s9 m9 below9 meth9 c9 H ls av9 Q9 hx hb hlocks hml hts hown hK hP hend hl
  have hown : s9.vm.findClass RX6 = some m9.cls := hown
  have hl : lv_has ls 3 [(0, .ref q), (1, .int (nI p)), (2, .int (nI r))] := hl
  refine lv_aload_n hx hb dX6_readyFor_0 rfl (lv_at hl 0 rfl) ?_
  refine lv_bipush (v := (70 : Int32)) hx hb dX6_readyFor_1 (by decide) ?_
  refine lv_bipush (v := (6 : Int32)) hx hb dX6_readyFor_3 (by decide) ?_
  refine lv_iload_n hx hb dX6_readyFor_5 rfl (lv_at hl 1 rfl) ?_
  refine lv_imul hx hb dX6_readyFor_6 ?_
  refine lv_iadd hx hb dX6_readyFor_7 ?_
  refine lv_iload_n hx hb dX6_readyFor_8 rfl (lv_at hl 2 rfl) ?_
  refine lv_iadd hx hb dX6_readyFor_9 ?_
  refine xi_ld hx hb hK hP 0 (f := N) rfl ((70 + (6 * p)) + r) (nn_add (nn_add rfl (nn_mul rfl rfl)) rfl) (by omega) (by decide) dX6_readyFor_10 ?_
  exact hend _ _ _ (by first | rfl | (simp; done) | omega) dX6_readyFor_11

abbrev rm_X6_worth : Room := { frames := 1, cells := 0, slots := 0, locals := 22 }
set_option maxHeartbeats 4000000 in
set_option maxRecDepth 100000 in
theorem c_X6_worth (l : Launch) (K : KX) (q : Nat) (N : Nat → Int32) (p : Nat) (hp : p < 10) (r : Nat) (hr : r < 6) : Met l yX6_worth wsX6_worth rm_X6_worth (va_Pc [.ref q, .int (nI p), .int (nI r)] (xRead K ([(q, aI K 190 N)]))) (vp_Si (fun r9 => r9 = mW N p r)) 0 0 (fun _ => False) := by
  refine xr_starti (cc := cX6_worth) (maxL := 4) (by decide) rfl (Nat.le_of_ble_eq_true rfl) ?_
  intro p9 e9 s9 m9 below9 meth9 c9 H ls av9 Q9 hx hb hlocks hml hts hown hK hP hend hl
  have hown : s9.vm.findClass RX6 = some m9.cls := hown
  have hl : lv_has ls 4 [(0, .ref q), (1, .int (nI p)), (2, .int (nI r))] := hl
  refine lv_aload_n hx hb dX6_worth_0 rfl (lv_at hl 0 rfl) ?_
  refine lv_iload_n hx hb dX6_worth_1 rfl (lv_at hl 1 rfl) ?_
  refine lv_iload_n hx hb dX6_worth_2 rfl (lv_at hl 2 rfl) ?_
  have hPc : va_P K.1 vwCl ([(q, aI K 190 N)]) H := hP
  refine xr_S (As := [.ref q, .int (nI p), .int (nI r)]) (rest := []) ⟨hx, hb, hml, hown, hts⟩ (c_X6_readyFor l K q N p (by omega) r (by omega)) (va_cwS 3 hts gX6_worth_X6_readyFor rfl rfl rfl (by decide +kernel) ⟨Nat.le_of_ble_eq_true rfl, Nat.le_of_ble_eq_true rfl⟩) hK hPc rfl hl.1 rfl (Nat.le_of_ble_eq_true rfl) (Nat.le_of_ble_eq_true rfl) (Nat.le_of_ble_eq_true rfl) dX6_worth_3 ?_
  refine lv_istore_n (lv' := [(3, .int (N (70 + 6 * p + r))), (0, .ref q), (1, .int (nI p)), (2, .int (nI r))]) hx hb dX6_worth_6 rfl hl (by decide) rfl (fun ls hl => ?_)
  refine lv_iload_n hx hb dX6_worth_7 rfl (lv_at hl 0 rfl) ?_
  refine lv_if_ne (tgt := 15) hx hb dX6_worth_8 (by decide) (fun c_8 => ?_) (fun c_8 => ?_)
  · skip
    refine lv_aload_n hx hb dX6_worth_15 rfl (lv_at hl 1 rfl) ?_
    refine lv_bipush (v := (12 : Int32)) hx hb dX6_worth_16 (by decide) ?_
    refine lv_iload_n hx hb dX6_worth_18 rfl (lv_at hl 3 rfl) ?_
    refine lv_iadd hx hb dX6_worth_19 ?_
    refine xi_ld hx hb hK hP 0 (f := N) rfl (12 + r) (nn_add rfl rfl) (by omega) (by decide) dX6_worth_20 ?_
    refine lv_aload_n hx hb dX6_worth_21 rfl (lv_at hl 1 rfl) ?_
    refine lv_bipush (v := (18 : Int32)) hx hb dX6_worth_22 (by decide) ?_
    refine lv_iload_n hx hb dX6_worth_24 rfl (lv_at hl 3 rfl) ?_
    refine lv_iadd hx hb dX6_worth_25 ?_
    refine xi_ld hx hb hK hP 0 (f := N) rfl (18 + r) (nn_add rfl rfl) (by omega) (by decide) dX6_worth_26 ?_
    refine lv_iload_n hx hb dX6_worth_27 rfl (lv_at hl 2 rfl) ?_
    refine lv_icmp_ne (tgt := 38) hx hb dX6_worth_28 (by decide) (fun c_28 => ?_) (fun c_28 => ?_)
    · skip
      refine lv_iload_n hx hb dX6_worth_38 rfl (lv_at hl 0 rfl) ?_
      refine lv_imul hx hb dX6_worth_39 ?_
      exact hend _ _ _ (by first | rfl | (simp [mW, c_8, c_28]; done) | omega) dX6_worth_40
    · skip
      refine lv_iload_n hx hb dX6_worth_31 rfl (lv_at hl 0 rfl) ?_
      refine lv_bipush (v := (10 : Int32)) hx hb dX6_worth_32 (by decide) ?_
      refine lv_iadd hx hb dX6_worth_34 ?_
      refine lv_goto (tgt := 39) hx hb dX6_worth_35 (by decide) ?_
      refine lv_imul hx hb dX6_worth_39 ?_
      exact hend _ _ _ (by first | rfl | (simp [mW, c_8, c_28]; done) | omega) dX6_worth_40
  · skip
    refine lv_iconst (v := (0 : Int32)) hx hb dX6_worth_11 (by decide) ?_
    refine lv_goto (tgt := 40) hx hb dX6_worth_12 (by decide) ?_
    exact hend _ _ _ (by first | rfl | (simp [mW, c_8]; done) | omega) dX6_worth_40

abbrev rm_X6_isFree : Room := { frames := 0, cells := 0, slots := 0, locals := 0 }
set_option maxHeartbeats 4000000 in
set_option maxRecDepth 100000 in
theorem c_X6_isFree (l : Launch) (K : KX) (q : Nat) (N : Nat → Int32) (p : Nat) (hp : p < 10) : Met l yX6_isFree wsX6_isFree rm_X6_isFree (va_Pc [.ref q, .int (nI p)] (xRead K ([(q, aI K 190 N)]))) (vp_Si (fun r9 => r9 = bI (mFree N p))) 0 0 (fun _ => False) := by
  refine xr_startz (cc := cX6_isFree) (maxL := 2) (ret := .boolean) (by decide) rfl (Nat.le_of_ble_eq_true rfl) ?_
  intro p9 e9 s9 m9 below9 meth9 c9 H ls av9 Q9 hx hb hlocks hml hts hown hK hP hend hl
  have hown : s9.vm.findClass RX6 = some m9.cls := hown
  have hl : lv_has ls 2 [(0, .ref q), (1, .int (nI p))] := hl
  refine lv_aload_n hx hb dX6_isFree_0 rfl (lv_at hl 0 rfl) ?_
  refine lv_bipush (v := (50 : Int32)) hx hb dX6_isFree_1 (by decide) ?_
  refine lv_iload_n hx hb dX6_isFree_3 rfl (lv_at hl 1 rfl) ?_
  refine lv_iadd hx hb dX6_isFree_4 ?_
  refine xi_ld hx hb hK hP 0 (f := N) rfl (50 + p) (nn_add rfl rfl) (by omega) (by decide) dX6_isFree_5 ?_
  refine lv_aload_n hx hb dX6_isFree_6 rfl (lv_at hl 0 rfl) ?_
  refine lv_iconst (v := (0 : Int32)) hx hb dX6_isFree_7 (by decide) ?_
  refine xi_ld hx hb hK hP 0 (f := N) rfl 0 rfl (by omega) (by decide) dX6_isFree_8 ?_
  refine lv_icmp_gt (tgt := 28) hx hb dX6_isFree_9 (by decide) (fun c_9 => ?_) (fun c_9 => ?_)
  · skip
    have c_9n := Int32.not_le.mpr c_9
    refine lv_iconst (v := (0 : Int32)) hx hb dX6_isFree_28 (by decide) ?_
    exact hend _ _ _ (by decide) (by first | rfl | (simp [bI, c_9, c_9n]; done) | omega) dX6_isFree_29
  · skip
    have c_9n := Int32.not_lt.mp c_9
    refine lv_aload_n hx hb dX6_isFree_12 rfl (lv_at hl 0 rfl) ?_
    refine lv_bipush (v := (40 : Int32)) hx hb dX6_isFree_13 (by decide) ?_
    refine lv_iload_n hx hb dX6_isFree_15 rfl (lv_at hl 1 rfl) ?_
    refine lv_iadd hx hb dX6_isFree_16 ?_
    refine xi_ld hx hb hK hP 0 (f := N) rfl (40 + p) (nn_add rfl rfl) (by omega) (by decide) dX6_isFree_17 ?_
    refine lv_aload_n hx hb dX6_isFree_18 rfl (lv_at hl 0 rfl) ?_
    refine lv_iconst (v := (5 : Int32)) hx hb dX6_isFree_19 (by decide) ?_
    refine xi_ld hx hb hK hP 0 (f := N) rfl 5 rfl (by omega) (by decide) dX6_isFree_20 ?_
    refine lv_icmp_ge (tgt := 28) hx hb dX6_isFree_21 (by decide) (fun c_21 => ?_) (fun c_21 => ?_)
    · skip
      have c_21n := Int32.not_lt.mpr c_21
      refine lv_iconst (v := (0 : Int32)) hx hb dX6_isFree_28 (by decide) ?_
      exact hend _ _ _ (by decide) (by first | rfl | (simp [bI, c_9, c_9n, c_21, c_21n]; done) | omega) dX6_isFree_29
    · skip
      have c_21n := Int32.not_le.mp c_21
      refine lv_iconst (v := (1 : Int32)) hx hb dX6_isFree_24 (by decide) ?_
      refine lv_goto (tgt := 29) hx hb dX6_isFree_25 (by decide) ?_
      exact hend _ _ _ (by decide) (by first | rfl | (simp [bI, c_9, c_9n, c_21, c_21n]; done) | omega) dX6_isFree_29

abbrev rm_X6_canPlay : Room := { frames := 1, cells := 0, slots := 0, locals := 22 }
set_option maxHeartbeats 4000000 in
set_option maxRecDepth 100000 in
theorem c_X6_canPlay (l : Launch) (K : KX) (q : Nat) (N : Nat → Int32) (p : Nat) (hp : p < 10) (r : Nat) (hr : r < 6) : Met l yX6_canPlay wsX6_canPlay rm_X6_canPlay (va_Pc [.ref q, .int (nI p), .int (nI r)] (xRead K ([(q, aI K 190 N)]))) (vp_Si (fun r9 => r9 = bI (mFree N p ∧ 0 < N (70 + 6 * p + r)))) 0 0 (fun _ => False) := by
  refine xr_startz (cc := cX6_canPlay) (maxL := 3) (ret := .boolean) (by decide) rfl (Nat.le_of_ble_eq_true rfl) ?_
  intro p9 e9 s9 m9 below9 meth9 c9 H ls av9 Q9 hx hb hlocks hml hts hown hK hP hend hl
  have hown : s9.vm.findClass RX6 = some m9.cls := hown
  have hl : lv_has ls 3 [(0, .ref q), (1, .int (nI p)), (2, .int (nI r))] := hl
  refine lv_aload_n hx hb dX6_canPlay_0 rfl (lv_at hl 0 rfl) ?_
  refine lv_iload_n hx hb dX6_canPlay_1 rfl (lv_at hl 1 rfl) ?_
  have hPc : va_P K.1 vwCl ([(q, aI K 190 N)]) H := hP
  refine xr_S (As := [.ref q, .int (nI p)]) (rest := []) ⟨hx, hb, hml, hown, hts⟩ (c_X6_isFree l K q N p (by omega)) (va_cwS 2 hts gX6_canPlay_X6_isFree rfl rfl rfl (by decide +kernel) ⟨Nat.le_of_ble_eq_true rfl, Nat.le_of_ble_eq_true rfl⟩) hK hPc rfl hl.1 rfl (Nat.le_of_ble_eq_true rfl) (Nat.le_of_ble_eq_true rfl) (Nat.le_of_ble_eq_true rfl) dX6_canPlay_2 ?_
  refine xb_if_eq (tgt := 21) hx hb dX6_canPlay_5 (by decide) (fun c_5 => ?_) (fun c_5 => ?_)
  · skip
    refine lv_iconst (v := (0 : Int32)) hx hb dX6_canPlay_21 (by decide) ?_
    exact hend _ _ _ (by decide) (by first | rfl | (simp [bI, c_5]; done) | omega) dX6_canPlay_22
  · skip
    refine lv_aload_n hx hb dX6_canPlay_8 rfl (lv_at hl 0 rfl) ?_
    refine lv_iload_n hx hb dX6_canPlay_9 rfl (lv_at hl 1 rfl) ?_
    refine lv_iload_n hx hb dX6_canPlay_10 rfl (lv_at hl 2 rfl) ?_
    have hPc : va_P K.1 vwCl ([(q, aI K 190 N)]) H := hP
    refine xr_S (As := [.ref q, .int (nI p), .int (nI r)]) (rest := []) ⟨hx, hb, hml, hown, hts⟩ (c_X6_readyFor l K q N p (by omega) r (by omega)) (va_cwS 3 hts gX6_canPlay_X6_readyFor rfl rfl rfl (by decide +kernel) ⟨Nat.le_of_ble_eq_true rfl, Nat.le_of_ble_eq_true rfl⟩) hK hPc rfl hl.1 rfl (Nat.le_of_ble_eq_true rfl) (Nat.le_of_ble_eq_true rfl) (Nat.le_of_ble_eq_true rfl) dX6_canPlay_11 ?_
    refine lv_if_le (tgt := 21) hx hb dX6_canPlay_14 (by decide) (fun c_14 => ?_) (fun c_14 => ?_)
    · skip
      have c_14n := Int32.not_lt.mpr c_14
      refine lv_iconst (v := (0 : Int32)) hx hb dX6_canPlay_21 (by decide) ?_
      exact hend _ _ _ (by decide) (by first | rfl | (simp [bI, c_5, c_14, c_14n]; done) | omega) dX6_canPlay_22
    · skip
      have c_14n := Int32.not_le.mp c_14
      refine lv_iconst (v := (1 : Int32)) hx hb dX6_canPlay_17 (by decide) ?_
      refine lv_goto (tgt := 22) hx hb dX6_canPlay_18 (by decide) ?_
      exact hend _ _ _ (by decide) (by first | rfl | (simp [bI, c_5, c_14, c_14n]; done) | omega) dX6_canPlay_22

abbrev rm_X6_payFor : Room := { frames := 0, cells := 0, slots := 0, locals := 0 }
set_option maxHeartbeats 4000000 in
set_option maxRecDepth 100000 in
theorem c_X6_payFor (l : Launch) (K : KX) (q : Nat) (N : Nat → Int32) (p : Nat) (hp : p < 10) (r : Nat) (hr : r < 6) : Met l yX6_payFor wsX6_payFor rm_X6_payFor (va_Pc [.ref q, .int (nI p), .int (nI r)] (xRead K ([(q, aI K 190 N)]))) (vp_Si (fun r9 => r9 = mPay N p r)) 0 0 (fun _ => False) := by
  refine xr_starti (cc := cX6_payFor) (maxL := 4) (by decide) rfl (Nat.le_of_ble_eq_true rfl) ?_
  intro p9 e9 s9 m9 below9 meth9 c9 H ls av9 Q9 hx hb hlocks hml hts hown hK hP hend hl
  have hown : s9.vm.findClass RX6 = some m9.cls := hown
  have hl : lv_has ls 4 [(0, .ref q), (1, .int (nI p)), (2, .int (nI r))] := hl
  refine lv_aload_n hx hb dX6_payFor_0 rfl (lv_at hl 0 rfl) ?_
  refine lv_bipush (v := (6 : Int32)) hx hb dX6_payFor_1 (by decide) ?_
  refine xi_ld hx hb hK hP 0 (f := N) rfl 6 rfl (by omega) (by decide) dX6_payFor_3 ?_
  refine lv_aload_n hx hb dX6_payFor_4 rfl (lv_at hl 0 rfl) ?_
  refine lv_bipush (v := (7 : Int32)) hx hb dX6_payFor_5 (by decide) ?_
  refine xi_ld hx hb hK hP 0 (f := N) rfl 7 rfl (by omega) (by decide) dX6_payFor_7 ?_
  refine lv_aload_n hx hb dX6_payFor_8 rfl (lv_at hl 0 rfl) ?_
  refine lv_bipush (v := (12 : Int32)) hx hb dX6_payFor_9 (by decide) ?_
  refine lv_iload_n hx hb dX6_payFor_11 rfl (lv_at hl 2 rfl) ?_
  refine lv_iadd hx hb dX6_payFor_12 ?_
  refine xi_ld hx hb hK hP 0 (f := N) rfl (12 + r) (nn_add rfl rfl) (by omega) (by decide) dX6_payFor_13 ?_
  refine lv_imul hx hb dX6_payFor_14 ?_
  refine lv_iadd hx hb dX6_payFor_15 ?_
  refine lv_istore_n (lv' := [(3, .int ((N 6) + ((N 7) * (N (12 + r))))), (0, .ref q), (1, .int (nI p)), (2, .int (nI r))]) hx hb dX6_payFor_16 rfl hl (by decide) rfl (fun ls hl => ?_)
  refine lv_iload_n hx hb dX6_payFor_17 rfl (lv_at hl 0 rfl) ?_
  refine lv_aload_n hx hb dX6_payFor_18 rfl (lv_at hl 1 rfl) ?_
  refine lv_bipush (v := (18 : Int32)) hx hb dX6_payFor_19 (by decide) ?_
  refine lv_iload_n hx hb dX6_payFor_21 rfl (lv_at hl 3 rfl) ?_
  refine lv_iadd hx hb dX6_payFor_22 ?_
  refine xi_ld hx hb hK hP 0 (f := N) rfl (18 + r) (nn_add rfl rfl) (by omega) (by decide) dX6_payFor_23 ?_
  refine lv_iload_n hx hb dX6_payFor_24 rfl (lv_at hl 2 rfl) ?_
  refine lv_icmp_ne (tgt := 32) hx hb dX6_payFor_25 (by decide) (fun c_25 => ?_) (fun c_25 => ?_)
  · skip
    refine lv_aload_n hx hb dX6_payFor_32 rfl (lv_at hl 1 rfl) ?_
    refine lv_bipush (v := (8 : Int32)) hx hb dX6_payFor_33 (by decide) ?_
    refine xi_ld hx hb hK hP 0 (f := N) rfl 8 rfl (by omega) (by decide) dX6_payFor_35 ?_
    refine lv_iadd hx hb dX6_payFor_36 ?_
    refine lv_istore_n (lv' := [(3, .int (((N 6) + ((N 7) * (N (12 + r)))) + (N 8))), (0, .ref q), (1, .int (nI p)), (2, .int (nI r))]) hx hb dX6_payFor_37 rfl hl (by decide) rfl (fun ls hl => ?_)
    refine lv_iload_n hx hb dX6_payFor_38 rfl (lv_at hl 0 rfl) ?_
    refine lv_aload_n hx hb dX6_payFor_39 rfl (lv_at hl 1 rfl) ?_
    refine lv_bipush (v := (10 : Int32)) hx hb dX6_payFor_40 (by decide) ?_
    refine xi_ld hx hb hK hP 0 (f := N) rfl 10 rfl (by omega) (by decide) dX6_payFor_42 ?_
    refine lv_iconst (v := (1 : Int32)) hx hb dX6_payFor_43 (by decide) ?_
    refine lv_icmp_ne (tgt := 64) hx hb dX6_payFor_44 (by decide) (fun c_44 => ?_) (fun c_44 => ?_)
    · skip
      refine lv_iconst (v := (0 : Int32)) hx hb dX6_payFor_64 (by decide) ?_
      refine lv_iadd hx hb dX6_payFor_65 ?_
      exact hend _ _ _ (by first | rfl | (simp [mPay, c_25, c_44]; done) | omega) dX6_payFor_66
    · skip
      refine lv_aload_n hx hb dX6_payFor_47 rfl (lv_at hl 1 rfl) ?_
      refine lv_bipush (v := (24 : Int32)) hx hb dX6_payFor_48 (by decide) ?_
      refine lv_iload_n hx hb dX6_payFor_50 rfl (lv_at hl 3 rfl) ?_
      refine lv_iadd hx hb dX6_payFor_51 ?_
      refine xi_ld hx hb hK hP 0 (f := N) rfl (24 + r) (nn_add rfl rfl) (by omega) (by decide) dX6_payFor_52 ?_
      refine lv_iload_n hx hb dX6_payFor_53 rfl (lv_at hl 2 rfl) ?_
      refine lv_icmp_eq (tgt := 64) hx hb dX6_payFor_54 (by decide) (fun c_54 => ?_) (fun c_54 => ?_)
      · skip
        refine lv_iconst (v := (0 : Int32)) hx hb dX6_payFor_64 (by decide) ?_
        refine lv_iadd hx hb dX6_payFor_65 ?_
        exact hend _ _ _ (by first | rfl | (simp [mPay, c_25, c_44, c_54]; done) | omega) dX6_payFor_66
      · skip
        refine lv_aload_n hx hb dX6_payFor_57 rfl (lv_at hl 1 rfl) ?_
        refine lv_bipush (v := (9 : Int32)) hx hb dX6_payFor_58 (by decide) ?_
        refine xi_ld hx hb hK hP 0 (f := N) rfl 9 rfl (by omega) (by decide) dX6_payFor_60 ?_
        refine lv_goto (tgt := 65) hx hb dX6_payFor_61 (by decide) ?_
        refine lv_iadd hx hb dX6_payFor_65 ?_
        exact hend _ _ _ (by first | rfl | (simp [mPay, c_25, c_44, c_54]; done) | omega) dX6_payFor_66
  · skip
    refine lv_iconst (v := (0 : Int32)) hx hb dX6_payFor_28 (by decide) ?_
    refine lv_goto (tgt := 36) hx hb dX6_payFor_29 (by decide) ?_
    refine lv_iadd hx hb dX6_payFor_36 ?_
    refine lv_istore_n (lv' := [(3, .int (((N 6) + ((N 7) * (N (12 + r)))) + (0 : Int32))), (0, .ref q), (1, .int (nI p)), (2, .int (nI r))]) hx hb dX6_payFor_37 rfl hl (by decide) rfl (fun ls hl => ?_)
    refine lv_iload_n hx hb dX6_payFor_38 rfl (lv_at hl 0 rfl) ?_
    refine lv_aload_n hx hb dX6_payFor_39 rfl (lv_at hl 1 rfl) ?_
    refine lv_bipush (v := (10 : Int32)) hx hb dX6_payFor_40 (by decide) ?_
    refine xi_ld hx hb hK hP 0 (f := N) rfl 10 rfl (by omega) (by decide) dX6_payFor_42 ?_
    refine lv_iconst (v := (1 : Int32)) hx hb dX6_payFor_43 (by decide) ?_
    refine lv_icmp_ne (tgt := 64) hx hb dX6_payFor_44 (by decide) (fun c_44 => ?_) (fun c_44 => ?_)
    · skip
      refine lv_iconst (v := (0 : Int32)) hx hb dX6_payFor_64 (by decide) ?_
      refine lv_iadd hx hb dX6_payFor_65 ?_
      exact hend _ _ _ (by first | rfl | (simp [mPay, c_25, c_44]; done) | omega) dX6_payFor_66
    · skip
      refine lv_aload_n hx hb dX6_payFor_47 rfl (lv_at hl 1 rfl) ?_
      refine lv_bipush (v := (24 : Int32)) hx hb dX6_payFor_48 (by decide) ?_
      refine lv_iload_n hx hb dX6_payFor_50 rfl (lv_at hl 3 rfl) ?_
      refine lv_iadd hx hb dX6_payFor_51 ?_
      refine xi_ld hx hb hK hP 0 (f := N) rfl (24 + r) (nn_add rfl rfl) (by omega) (by decide) dX6_payFor_52 ?_
      refine lv_iload_n hx hb dX6_payFor_53 rfl (lv_at hl 2 rfl) ?_
      refine lv_icmp_eq (tgt := 64) hx hb dX6_payFor_54 (by decide) (fun c_54 => ?_) (fun c_54 => ?_)
      · skip
        refine lv_iconst (v := (0 : Int32)) hx hb dX6_payFor_64 (by decide) ?_
        refine lv_iadd hx hb dX6_payFor_65 ?_
        exact hend _ _ _ (by first | rfl | (simp [mPay, c_25, c_44, c_54]; done) | omega) dX6_payFor_66
      · skip
        refine lv_aload_n hx hb dX6_payFor_57 rfl (lv_at hl 1 rfl) ?_
        refine lv_bipush (v := (9 : Int32)) hx hb dX6_payFor_58 (by decide) ?_
        refine xi_ld hx hb hK hP 0 (f := N) rfl 9 rfl (by omega) (by decide) dX6_payFor_60 ?_
        refine lv_goto (tgt := 65) hx hb dX6_payFor_61 (by decide) ?_
        refine lv_iadd hx hb dX6_payFor_65 ?_
        exact hend _ _ _ (by first | rfl | (simp [mPay, c_25, c_44, c_54]; done) | omega) dX6_payFor_66

/-! casting: its methods -/
def bc1 (i : Int32) : Int32 := i - ((i.toUInt32 >>> ((1 : Int32).toUInt32 &&& Int32.toUInt32 31)).toInt32 &&& (1431655765 : Int32))
def bc2 (i : Int32) : Int32 := (i &&& (858993459 : Int32)) + ((i.toUInt32 >>> ((2 : Int32).toUInt32 &&& Int32.toUInt32 31)).toInt32 &&& (858993459 : Int32))
def bc3 (i : Int32) : Int32 := (i + (i.toUInt32 >>> ((4 : Int32).toUInt32 &&& Int32.toUInt32 31)).toInt32) &&& (252645135 : Int32)
def bc4 (i : Int32) : Int32 := i + (i.toUInt32 >>> ((8 : Int32).toUInt32 &&& Int32.toUInt32 31)).toInt32
def bc5 (i : Int32) : Int32 := i + (i.toUInt32 >>> ((16 : Int32).toUInt32 &&& Int32.toUInt32 31)).toInt32
theorem bc_ok : ∀ t, t < 1024 → bc5 (bc4 (bc3 (bc2 (bc1 (nI t))))) &&& (63 : Int32) = nI (pop t) := by decide +kernel
theorem nn_dec {x : Int32} {t : Nat} (h : x + 1 = nI t) (ht : 0 < t) : x = nI (t - 1) := by
  obtain ⟨u, rfl⟩ : ∃ u, t = u + 1 := ⟨t - 1, by omega⟩
  rw [show u + 1 - 1 = u by omega]
  have h2 : x + 1 - 1 = nI (u + 1) - 1 := by rw [h]
  rw [nI_pred, Int32.add_sub_cancel] at h2
  exact h2

abbrev rm_J6_bitCount_0f7a4 : Room := { frames := 0, cells := 0, slots := 0, locals := 0 }
set_option maxHeartbeats 4000000 in
set_option maxRecDepth 100000 in
theorem c_J6_bitCount_0f7a4 (l : Launch) (K : KX) (t : Nat) (ht : t < 1024) : Met l yJ6_bitCount_0f7a4 wsJ6_bitCount_0f7a4 rm_J6_bitCount_0f7a4 (va_Pc [.int (nI t)] (xRead K ([]))) (vp_Si (fun r9 => r9 = nI (pop t))) 0 0 (fun _ => False) := by
  refine xr_starti (cc := cJ6_bitCount_0f7a4) (maxL := 1) (by decide) rfl (Nat.le_of_ble_eq_true rfl) ?_
  intro p9 e9 s9 m9 below9 meth9 c9 H ls av9 Q9 hx hb hlocks hml hts hown hK hP hend hl
  have hown : s9.vm.findClass RJ6 = some m9.cls := hown
  have hl : lv_has ls 1 [(0, .int (nI t))] := hl
  refine lv_iload_n hx hb dJ6_bitCount_0f7a4_0 rfl (lv_at hl 0 rfl) ?_
  refine lv_iload_n hx hb dJ6_bitCount_0f7a4_1 rfl (lv_at hl 0 rfl) ?_
  refine lv_iconst (v := (1 : Int32)) hx hb dJ6_bitCount_0f7a4_2 (by decide) ?_
  refine lv_iushr (v := ((nI t).toUInt32 >>> ((1 : Int32).toUInt32 &&& Int32.toUInt32 31)).toInt32) hx hb dJ6_bitCount_0f7a4_3 rfl ?_
  refine lv_ldcw (v := (1431655765 : Int32)) hx hb hown (hts (.constant RJ6 265 1431655765) (by decide +kernel)) dJ6_bitCount_0f7a4_4 ?_
  refine lv_iand hx hb dJ6_bitCount_0f7a4_7 ?_
  refine lv_isub hx hb dJ6_bitCount_0f7a4_8 ?_
  refine lv_istore_n (lv' := [(0, .int (bc1 (nI t)))]) hx hb dJ6_bitCount_0f7a4_9 rfl hl (by decide) rfl (fun ls hl => ?_)
  refine lv_iload_n hx hb dJ6_bitCount_0f7a4_10 rfl (lv_at hl 0 rfl) ?_
  refine lv_ldcw (v := (858993459 : Int32)) hx hb hown (hts (.constant RJ6 266 858993459) (by decide +kernel)) dJ6_bitCount_0f7a4_11 ?_
  refine lv_iand hx hb dJ6_bitCount_0f7a4_14 ?_
  refine lv_iload_n hx hb dJ6_bitCount_0f7a4_15 rfl (lv_at hl 0 rfl) ?_
  refine lv_iconst (v := (2 : Int32)) hx hb dJ6_bitCount_0f7a4_16 (by decide) ?_
  refine lv_iushr (v := ((bc1 (nI t)).toUInt32 >>> ((2 : Int32).toUInt32 &&& Int32.toUInt32 31)).toInt32) hx hb dJ6_bitCount_0f7a4_17 rfl ?_
  refine lv_ldcw (v := (858993459 : Int32)) hx hb hown (hts (.constant RJ6 266 858993459) (by decide +kernel)) dJ6_bitCount_0f7a4_18 ?_
  refine lv_iand hx hb dJ6_bitCount_0f7a4_21 ?_
  refine lv_iadd hx hb dJ6_bitCount_0f7a4_22 ?_
  refine lv_istore_n (lv' := [(0, .int (bc2 (bc1 (nI t))))]) hx hb dJ6_bitCount_0f7a4_23 rfl hl (by decide) rfl (fun ls hl => ?_)
  refine lv_iload_n hx hb dJ6_bitCount_0f7a4_24 rfl (lv_at hl 0 rfl) ?_
  refine lv_iload_n hx hb dJ6_bitCount_0f7a4_25 rfl (lv_at hl 0 rfl) ?_
  refine lv_iconst (v := (4 : Int32)) hx hb dJ6_bitCount_0f7a4_26 (by decide) ?_
  refine lv_iushr (v := ((bc2 (bc1 (nI t))).toUInt32 >>> ((4 : Int32).toUInt32 &&& Int32.toUInt32 31)).toInt32) hx hb dJ6_bitCount_0f7a4_27 rfl ?_
  refine lv_iadd hx hb dJ6_bitCount_0f7a4_28 ?_
  refine lv_ldcw (v := (252645135 : Int32)) hx hb hown (hts (.constant RJ6 267 252645135) (by decide +kernel)) dJ6_bitCount_0f7a4_29 ?_
  refine lv_iand hx hb dJ6_bitCount_0f7a4_32 ?_
  refine lv_istore_n (lv' := [(0, .int (bc3 (bc2 (bc1 (nI t)))))]) hx hb dJ6_bitCount_0f7a4_33 rfl hl (by decide) rfl (fun ls hl => ?_)
  refine lv_iload_n hx hb dJ6_bitCount_0f7a4_34 rfl (lv_at hl 0 rfl) ?_
  refine lv_iload_n hx hb dJ6_bitCount_0f7a4_35 rfl (lv_at hl 0 rfl) ?_
  refine lv_bipush (v := (8 : Int32)) hx hb dJ6_bitCount_0f7a4_36 (by decide) ?_
  refine lv_iushr (v := ((bc3 (bc2 (bc1 (nI t)))).toUInt32 >>> ((8 : Int32).toUInt32 &&& Int32.toUInt32 31)).toInt32) hx hb dJ6_bitCount_0f7a4_38 rfl ?_
  refine lv_iadd hx hb dJ6_bitCount_0f7a4_39 ?_
  refine lv_istore_n (lv' := [(0, .int (bc4 (bc3 (bc2 (bc1 (nI t))))))]) hx hb dJ6_bitCount_0f7a4_40 rfl hl (by decide) rfl (fun ls hl => ?_)
  refine lv_iload_n hx hb dJ6_bitCount_0f7a4_41 rfl (lv_at hl 0 rfl) ?_
  refine lv_iload_n hx hb dJ6_bitCount_0f7a4_42 rfl (lv_at hl 0 rfl) ?_
  refine lv_bipush (v := (16 : Int32)) hx hb dJ6_bitCount_0f7a4_43 (by decide) ?_
  refine lv_iushr (v := ((bc4 (bc3 (bc2 (bc1 (nI t))))).toUInt32 >>> ((16 : Int32).toUInt32 &&& Int32.toUInt32 31)).toInt32) hx hb dJ6_bitCount_0f7a4_45 rfl ?_
  refine lv_iadd hx hb dJ6_bitCount_0f7a4_46 ?_
  refine lv_istore_n (lv' := [(0, .int (bc5 (bc4 (bc3 (bc2 (bc1 (nI t)))))))]) hx hb dJ6_bitCount_0f7a4_47 rfl hl (by decide) rfl (fun ls hl => ?_)
  refine lv_iload_n hx hb dJ6_bitCount_0f7a4_48 rfl (lv_at hl 0 rfl) ?_
  refine lv_bipush (v := (63 : Int32)) hx hb dJ6_bitCount_0f7a4_49 (by decide) ?_
  refine lv_iand hx hb dJ6_bitCount_0f7a4_51 ?_
  exact hend _ _ _ (by exact bc_ok t ht) dJ6_bitCount_0f7a4_52

theorem isIn_iff {t p : Nat} (ht : t < 1024) (hp : p < 10) : ((nI t >>> (nI p &&& 31)) &&& (1 : Int32) = (1 : Int32)) ↔ t.testBit p = true := by
  rw [nn_and (nn_shr rfl rfl (by omega) (by omega)) (rfl : (1 : Int32) = nI 1), ← bit_div t p]
  exact nn_eq rfl rfl (Nat.lt_of_le_of_lt Nat.and_le_right (by decide)) (by decide)

abbrev rm_X0_isIn : Room := { frames := 0, cells := 0, slots := 0, locals := 0 }
set_option maxHeartbeats 4000000 in
set_option maxRecDepth 100000 in
theorem c_X0_isIn (l : Launch) (K : KX) (t : Nat) (ht : t < 1024) (p : Nat) (hp : p < 10) : Met l yX0_isIn wsX0_isIn rm_X0_isIn (va_Pc [.int (nI t), .int (nI p)] (xRead K ([]))) (vp_Si (fun r9 => r9 = bI (t.testBit p = true))) 0 0 (fun _ => False) := by
  refine xr_startz (cc := cX0_isIn) (maxL := 2) (ret := .boolean) (by decide) rfl (Nat.le_of_ble_eq_true rfl) ?_
  intro p9 e9 s9 m9 below9 meth9 c9 H ls av9 Q9 hx hb hlocks hml hts hown hK hP hend hl
  have hown : s9.vm.findClass RX0 = some m9.cls := hown
  have hl : lv_has ls 2 [(0, .int (nI t)), (1, .int (nI p))] := hl
  refine lv_iload_n hx hb dX0_isIn_0 rfl (lv_at hl 0 rfl) ?_
  refine lv_iload_n hx hb dX0_isIn_1 rfl (lv_at hl 1 rfl) ?_
  refine lv_ishr hx hb dX0_isIn_2 ?_
  refine lv_iconst (v := (1 : Int32)) hx hb dX0_isIn_3 (by decide) ?_
  refine lv_iand hx hb dX0_isIn_4 ?_
  refine lv_iconst (v := (1 : Int32)) hx hb dX0_isIn_5 (by decide) ?_
  refine lv_icmp_ne (tgt := 13) hx hb dX0_isIn_6 (by decide) (fun c_6 => ?_) (fun c_6 => ?_)
  · skip
    refine lv_iconst (v := (0 : Int32)) hx hb dX0_isIn_13 (by decide) ?_
    exact hend _ _ _ (by decide) (by first | exact (bI_t ((isIn_iff ht hp).mp c_6)).symm | exact (bI_f (fun h => c_6 ((isIn_iff ht hp).mpr h))).symm) dX0_isIn_14
  · skip
    refine lv_iconst (v := (1 : Int32)) hx hb dX0_isIn_9 (by decide) ?_
    refine lv_goto (tgt := 14) hx hb dX0_isIn_10 (by decide) ?_
    exact hend _ _ _ (by decide) (by first | exact (bI_t ((isIn_iff ht hp).mp c_6)).symm | exact (bI_f (fun h => c_6 ((isIn_iff ht hp).mpr h))).symm) dX0_isIn_14

abbrev rm_X0_sumWith : Room := { frames := 1, cells := 0, slots := 0, locals := 21 }
set_option maxHeartbeats 4000000 in
set_option maxRecDepth 100000 in
theorem c_X0_sumWith (l : Launch) (K : KX) (c : Nat) (b : Nat → Nat) (C : HV) (p : Nat) (hp : p < 10) (r : Nat) (hr : r < 6) (t : Nat) (ht : t < 1024) : Met l yX0_sumWith wsX0_sumWith rm_X0_sumWith (va_Pc [.ref c, .int (nI p), .int (nI r), .int (nI t)] (xRead K (cw K c b C))) (vp_Si (fun r9 => r9 = swC C p r t)) 0 0 (fun _ => False) := by
  refine xr_starti (cc := cX0_sumWith) (maxL := 6) (by decide) rfl (Nat.le_of_ble_eq_true rfl) ?_
  intro p9 e9 s9 m9 below9 meth9 c9 H ls av9 Q9 hx hb hlocks hml hts hown hK hP hend hl
  have hown : s9.vm.findClass RX0 = some m9.cls := hown
  have hl : lv_has ls 6 [(0, .ref c), (1, .int (nI p)), (2, .int (nI r)), (3, .int (nI t))] := hl
  have hi0 : ∀ w ∈ u_ws RX0 TX0 6, w ∈ wsX0_sumWith := by decide +kernel
  have lk15 := hts (.fieldLink RX0 15 "StandIns$Casting" "worths" "[I") (by decide +kernel)
  have lk9 := hts (.fieldLink RX0 9 "StandIns$Casting" "best" "[I") (by decide +kernel)
  refine lv_aload_n hx hb dX0_sumWith_0 rfl (lv_at hl 0 rfl) ?_
  refine va_get (ci := 0) (v := .ref (b 1)) (C := RX0) (T := TX0) (N := 6) hx hb hts hi0 hown hK hP 0 rfl rfl 1 (by decide) lk15 (fun _ h9 => h9) rfl dX0_sumWith_1 ?_
  refine lv_iload_n hx hb dX0_sumWith_4 rfl (lv_at hl 2 rfl) ?_
  refine lv_bipush (v := (10 : Int32)) hx hb dX0_sumWith_5 (by decide) ?_
  refine lv_imul hx hb dX0_sumWith_7 ?_
  refine lv_iload_n hx hb dX0_sumWith_8 rfl (lv_at hl 1 rfl) ?_
  refine lv_iadd hx hb dX0_sumWith_9 ?_
  refine xi_ld hx hb hK hP 2 (f := C 1) rfl ((r * 10) + p) (nn_add (nn_mul rfl rfl) rfl) (by omega) (by decide) dX0_sumWith_10 ?_
  refine lv_istore (lv' := [(4, .int (C 1 ((r * 10) + p))), (0, .ref c), (1, .int (nI p)), (2, .int (nI r)), (3, .int (nI t))]) hx hb dX0_sumWith_11 hl (by decide) rfl (fun ls hl => ?_)
  refine lv_iload hx hb dX0_sumWith_13 (lv_at hl 0 rfl) ?_
  refine lv_if_eq (tgt := 26) hx hb dX0_sumWith_15 (by decide) (fun c_15 => ?_) (fun c_15 => ?_)
  · skip
    refine lv_iconst (v := (-1 : Int32)) hx hb dX0_sumWith_26 (by decide) ?_
    exact hend _ _ _ (by (simp [swC, swF, c_15]; done)) dX0_sumWith_27
  · skip
    refine lv_iload_n hx hb dX0_sumWith_18 rfl (lv_at hl 4 rfl) ?_
    refine lv_iload_n hx hb dX0_sumWith_19 rfl (lv_at hl 2 rfl) ?_
    have hPc := P_sub (ws' := []) hP [] rfl
    refine xr_S (As := [.int (nI t), .int (nI p)]) (rest := []) ⟨hx, hb, hml, hown, hts⟩ (c_X0_isIn l K t (by omega) p (by omega)) (va_cwS 2 hts gX0_sumWith_X0_isIn rfl rfl rfl (by decide +kernel) ⟨Nat.le_of_ble_eq_true rfl, Nat.le_of_ble_eq_true rfl⟩) hK hPc rfl hl.1 rfl (Nat.le_of_ble_eq_true rfl) (Nat.le_of_ble_eq_true rfl) (Nat.le_of_ble_eq_true rfl) dX0_sumWith_20 ?_
    refine xb_if_eq (tgt := 28) hx hb dX0_sumWith_23 (by decide) (fun c_23 => ?_) (fun c_23 => ?_)
    · skip
      refine lv_aload_n hx hb dX0_sumWith_28 rfl (lv_at hl 1 rfl) ?_
      refine va_get (ci := 0) (v := .ref (b 0)) (C := RX0) (T := TX0) (N := 6) hx hb hts hi0 hown hK hP 0 rfl rfl 0 (by decide) lk9 (fun _ h9 => h9) rfl dX0_sumWith_29 ?_
      refine lv_iload_n hx hb dX0_sumWith_32 rfl (lv_at hl 4 rfl) ?_
      refine lv_iconst (v := (1 : Int32)) hx hb dX0_sumWith_33 (by decide) ?_
      refine lv_iload_n hx hb dX0_sumWith_34 rfl (lv_at hl 2 rfl) ?_
      refine lv_ishl hx hb dX0_sumWith_35 ?_
      refine lv_ior hx hb dX0_sumWith_36 ?_
      refine xi_ld hx hb hK hP 1 (f := C 0) rfl (t ||| (2 ^ p)) (nn_or rfl (nn_shl1 rfl rfl (by omega))) (by exact set_lt (P := 10) ht hp) (by decide) dX0_sumWith_37 ?_
      refine lv_istore (lv' := [(5, .int (C 0 (t ||| (2 ^ p)))), (4, .int (C 1 ((r * 10) + p))), (0, .ref c), (1, .int (nI p)), (2, .int (nI r)), (3, .int (nI t))]) hx hb dX0_sumWith_38 hl (by decide) rfl (fun ls hl => ?_)
      refine lv_iload hx hb dX0_sumWith_40 (lv_at hl 0 rfl) ?_
      refine lv_iconst (v := (-1 : Int32)) hx hb dX0_sumWith_42 (by decide) ?_
      refine lv_icmp_ne (tgt := 50) hx hb dX0_sumWith_43 (by decide) (fun c_43 => ?_) (fun c_43 => ?_)
      · skip
        refine lv_iload hx hb dX0_sumWith_50 (lv_at hl 1 rfl) ?_
        refine lv_iload hx hb dX0_sumWith_52 (lv_at hl 0 rfl) ?_
        refine lv_iadd hx hb dX0_sumWith_54 ?_
        exact hend _ _ _ (by (simp [swC, swF, c_15, c_23, c_43]; done)) dX0_sumWith_55
      · skip
        refine lv_iconst (v := (-1 : Int32)) hx hb dX0_sumWith_46 (by decide) ?_
        refine lv_goto (tgt := 55) hx hb dX0_sumWith_47 (by decide) ?_
        exact hend _ _ _ (by (simp [swC, swF, c_15, c_23, c_43]; done)) dX0_sumWith_55
    · skip
      refine lv_iconst (v := (-1 : Int32)) hx hb dX0_sumWith_26 (by decide) ?_
      exact hend _ _ _ (by (simp [swC, swF, c_15, c_23]; done)) dX0_sumWith_27

abbrev rm_X0_bestBehind : Room := { frames := 2, cells := 0, slots := 0, locals := 46 }
set_option maxHeartbeats 4000000 in
set_option maxRecDepth 100000 in
theorem c_X0_bestBehind (l : Launch) (K : KX) (c : Nat) (b : Nat → Nat) (C : HV) (t : Nat) (ht : t < 1024) (R : Nat) (hR0 : C 3 0 = nI R) (hR0b : R ≤ 6) (P : Nat) (hP0 : C 4 0 = nI P) (hP0b : P ≤ 10) : Met l yX0_bestBehind wsX0_bestBehind rm_X0_bestBehind (va_Pc [.ref c, .int (nI t)] (xRead K (cw K c b C))) (vp_Si (fun r9 => r9 = (if R ≤ pop t then 0 else mxF (fun p => swC C p (pop t) t) P))) 0 0 (fun _ => False) := by
  refine xr_starti (cc := cX0_bestBehind) (maxL := 5) (by decide) rfl (Nat.le_of_ble_eq_true rfl) ?_
  intro p9 e9 s9 m9 below9 meth9 c9 H ls av9 Q9 hx hb hlocks hml hts hown hK hP hend hl
  have hown : s9.vm.findClass RX0 = some m9.cls := hown
  have hl : lv_has ls 5 [(0, .ref c), (1, .int (nI t))] := hl
  have hi0 : ∀ w ∈ u_ws RX0 TX0 6, w ∈ wsX0_bestBehind := by decide +kernel
  have lk27 := hts (.fieldLink RX0 27 "StandIns$Casting" "roles" "I") (by decide +kernel)
  have lk34 := hts (.fieldLink RX0 34 "StandIns$Casting" "players" "I") (by decide +kernel)
  have hpt := pop_le t
  refine lv_iload_n hx hb dX0_bestBehind_0 rfl (lv_at hl 1 rfl) ?_
  have hPc := P_sub (ws' := []) hP [] rfl
  refine xr_S (As := [.int (nI t)]) (rest := []) ⟨hx, hb, hml, hown, hts⟩ (c_J6_bitCount_0f7a4 l K t (by omega)) (va_cwS 1 hts gX0_bestBehind_J6_bitCount_0f7a4 rfl rfl rfl (by decide +kernel) ⟨Nat.le_of_ble_eq_true rfl, Nat.le_of_ble_eq_true rfl⟩) hK hPc rfl hl.1 rfl (Nat.le_of_ble_eq_true rfl) (Nat.le_of_ble_eq_true rfl) (Nat.le_of_ble_eq_true rfl) dX0_bestBehind_1 ?_
  refine lv_istore_n (lv' := [(2, .int (nI (pop t))), (0, .ref c), (1, .int (nI t))]) hx hb dX0_bestBehind_4 rfl hl (by decide) rfl (fun ls hl => ?_)
  refine lv_iload_n hx hb dX0_bestBehind_5 rfl (lv_at hl 0 rfl) ?_
  refine lv_aload_n hx hb dX0_bestBehind_6 rfl (lv_at hl 1 rfl) ?_
  refine va_get (ci := 0) (v := .int (C 3 0)) (C := RX0) (T := TX0) (N := 6) hx hb hts hi0 hown hK hP 0 rfl rfl 3 (by decide) lk27 (fun _ h9 => h9) rfl dX0_bestBehind_7 ?_
  refine xn_icmp_lt (tgt := 15) hx hb (pop t) R rfl hR0 (by omega) (by omega) dX0_bestBehind_10 (by decide) (fun c_10 => ?_) (fun c_10 => ?_)
  · skip
    refine lv_iconst (v := (-1 : Int32)) hx hb dX0_bestBehind_15 (by decide) ?_
    refine lv_istore_n (lv' := [(3, .int (-1 : Int32)), (2, .int (nI (pop t))), (0, .ref c), (1, .int (nI t))]) hx hb dX0_bestBehind_16 rfl hl (by decide) rfl (fun ls hl => ?_)
    refine lv_iconst (v := (0 : Int32)) hx hb dX0_bestBehind_17 (by decide) ?_
    refine lv_istore (lv' := [(4, .int (0 : Int32)), (3, .int (-1 : Int32)), (2, .int (nI (pop t))), (0, .ref c), (1, .int (nI t))]) hx hb dX0_bestBehind_18 hl (by decide) rfl (fun ls hl => ?_)
    have lp20 : ∀ (n9 : Nat) (k : Nat) (ls : Array Slot), P - k < n9 → (k ≤ P) → lv_has ls 5 [(0, .ref c), (1, .int (nI t)), (2, .int (nI (pop t))), (3, .int (mxF (fun p => swC C p (pop t) t) k)), (4, .int (nI k))] → W p9 l e9 rm_X0_bestBehind s9 m9 av9 below9 meth9 c9 H [] 0 0 Q9 (F0 m9 20 ls []) := by
      intro n9
      induction n9 with
      | zero => intro k ls hmu hk hl; exact absurd hmu (Nat.not_lt_zero _)
      | succ n9 ih20 =>
        intro k ls hmu hk hl
        refine lv_iload hx hb dX0_bestBehind_20 (lv_at hl 4 rfl) ?_
        refine lv_aload_n hx hb dX0_bestBehind_22 rfl (lv_at hl 0 rfl) ?_
        refine va_get (ci := 0) (v := .int (C 4 0)) (C := RX0) (T := TX0) (N := 6) hx hb hts hi0 hown hK hP 0 rfl rfl 4 (by decide) lk34 (fun _ h9 => h9) rfl dX0_bestBehind_23 ?_
        refine xn_icmp_ge (tgt := 48) hx hb k P rfl hP0 (by omega) (by omega) dX0_bestBehind_26 (by decide) (fun c_26 => ?_) (fun c_26 => ?_)
        · skip
          refine lv_iload_n hx hb dX0_bestBehind_48 rfl (lv_at hl 3 rfl) ?_
          exact hend _ _ _ (by first | (rw [if_pos c_10]; done) | rw [if_neg (by omega), show k = P by omega]) dX0_bestBehind_49
        · skip
          refine lv_iload_n hx hb dX0_bestBehind_29 rfl (lv_at hl 3 rfl) ?_
          refine lv_aload_n hx hb dX0_bestBehind_30 rfl (lv_at hl 0 rfl) ?_
          refine lv_iload hx hb dX0_bestBehind_31 (lv_at hl 4 rfl) ?_
          refine lv_iload_n hx hb dX0_bestBehind_33 rfl (lv_at hl 2 rfl) ?_
          refine lv_iload_n hx hb dX0_bestBehind_34 rfl (lv_at hl 1 rfl) ?_
          have hPc : va_P K.1 vwCl (cw K c b C) H := hP
          refine xr_V (As := [.int (nI k), .int (nI (pop t)), .int (nI t)]) (rest := [.int (mxF (fun p => swC C p (pop t) t) k)]) ⟨hx, hb, hml, hown, hts⟩ (c_X0_sumWith l K c b C k (by omega) (pop t) (by omega) t (by omega)) (cwV 3 hts gX0_bestBehind_X0_sumWith rfl rfl rfl (by decide +kernel) ⟨Nat.le_of_ble_eq_true rfl, Nat.le_of_ble_eq_true rfl⟩) hK hPc 0 0 rfl rfl rfl rfl hl.1 rfl (Nat.le_of_ble_eq_true rfl) (Nat.le_of_ble_eq_true rfl) (Nat.le_of_ble_eq_true rfl) dX0_bestBehind_35 ?_
          refine va_mmax hx hb (hml.trans hl.1.symm) hown (hts (.methodLink RX0 65 Lib.Math.max.name) (by decide +kernel)) (hts (.static Lib.Math.max.name) (by decide +kernel)) (hts (.initialized "java/lang/Math") (by decide +kernel)) (hts (.code Lib.Math.max.name Lib.Math.max.code 2 (some .int)) (by decide +kernel)) (Nat.le_of_ble_eq_true rfl) (Nat.le_of_ble_eq_true rfl) (Nat.le_of_ble_eq_true rfl) (Nat.le_of_ble_eq_true rfl) dX0_bestBehind_38 ?_
          refine lv_istore_n (lv' := [(3, .int (if mxF (fun p => swC C p (pop t) t) k < swC C k (pop t) t then swC C k (pop t) t else mxF (fun p => swC C p (pop t) t) k)), (0, .ref c), (1, .int (nI t)), (2, .int (nI (pop t))), (4, .int (nI k))]) hx hb dX0_bestBehind_41 rfl hl (by decide) rfl (fun ls hl => ?_)
          refine lv_iinc (v := nI (k + 1)) (lv' := [(4, .int (nI (k + 1))), (3, .int (if mxF (fun p => swC C p (pop t) t) k < swC C k (pop t) t then swC C k (pop t) t else mxF (fun p => swC C p (pop t) t) k)), (0, .ref c), (1, .int (nI t)), (2, .int (nI (pop t)))]) hx hb dX0_bestBehind_42 hl (k := 4) rfl (nI_1 _) (by decide) rfl (fun ls hl => ?_)
          refine lv_goto (tgt := 20) hx hb dX0_bestBehind_45 (by decide) ?_
          exact ih20 (k + 1) _ (by omega) (by first | omega | assumption | first | rfl | (simp [c_10, c_26]; done) | omega) (lv_cons (lv_at hl 2 rfl) (lv_cons (lv_at hl 3 rfl) (lv_cons (lv_at hl 4 rfl) (lv_cons (lv_is (lv_at hl 1 rfl) (show (if mxF (fun p => swC C p (pop t) t) k < swC C k (pop t) t then swC C k (pop t) t else mxF (fun p => swC C p (pop t) t) k) = mxF (fun p => swC C p (pop t) t) (k + 1) by first | rfl | (simp [c_10, c_26]; done) | omega)) (lv_cons (lv_at hl 0 rfl) (lv_nil hl))))))
    exact lp20 _ 0 _ (Nat.lt_succ_self _) (by first | omega | assumption | first | rfl | (simp [c_10]; done) | omega) (lv_cons (lv_at hl 3 rfl) (lv_cons (lv_at hl 4 rfl) (lv_cons (lv_at hl 2 rfl) (lv_cons (lv_is (lv_at hl 1 rfl) (show (-1 : Int32) = mxF (fun p => swC C p (pop t) t) 0 by first | rfl | (simp [c_10]; done) | omega)) (lv_cons (lv_is (lv_at hl 0 rfl) (show (0 : Int32) = nI 0 by first | rfl | (simp [c_10]; done) | omega)) (lv_nil hl))))))
  · skip
    refine lv_iconst (v := (0 : Int32)) hx hb dX0_bestBehind_13 (by decide) ?_
    exact hend _ _ _ (by first | (rw [if_pos c_10]; done) | rw [if_neg (by omega), show k = P by omega]) dX0_bestBehind_14

abbrev rm_X0_playerOf : Room := { frames := 0, cells := 0, slots := 0, locals := 0 }
set_option maxHeartbeats 4000000 in
set_option maxRecDepth 100000 in
theorem c_X0_playerOf (l : Launch) (K : KX) (c : Nat) (b : Nat → Nat) (C : HV) (r : Nat) (hr : r < 2147483648) (R : Nat) (hR0 : C 3 0 = nI R) (hR0b : R ≤ 6) : Met l yX0_playerOf wsX0_playerOf rm_X0_playerOf (va_Pc [.ref c, .int (nI r)] (xRead K (cw K c b C))) (vp_Si (fun r9 => r9 = (if r < R then C 2 r else -1))) 0 0 (fun _ => False) := by
  refine xr_starti (cc := cX0_playerOf) (maxL := 2) (by decide) rfl (Nat.le_of_ble_eq_true rfl) ?_
  intro p9 e9 s9 m9 below9 meth9 c9 H ls av9 Q9 hx hb hlocks hml hts hown hK hP hend hl
  have hown : s9.vm.findClass RX0 = some m9.cls := hown
  have hl : lv_has ls 2 [(0, .ref c), (1, .int (nI r))] := hl
  have hi0 : ∀ w ∈ u_ws RX0 TX0 6, w ∈ wsX0_playerOf := by decide +kernel
  have lk27 := hts (.fieldLink RX0 27 "StandIns$Casting" "roles" "I") (by decide +kernel)
  have lk18 := hts (.fieldLink RX0 18 "StandIns$Casting" "cast" "[I") (by decide +kernel)
  refine lv_iload_n hx hb dX0_playerOf_0 rfl (lv_at hl 1 rfl) ?_
  refine xn_if_lt (tgt := 21) hx hb r rfl (by omega) dX0_playerOf_1 (by decide) ?_
  refine lv_iload_n hx hb dX0_playerOf_4 rfl (lv_at hl 1 rfl) ?_
  refine lv_aload_n hx hb dX0_playerOf_5 rfl (lv_at hl 0 rfl) ?_
  refine va_get (ci := 0) (v := .int (C 3 0)) (C := RX0) (T := TX0) (N := 6) hx hb hts hi0 hown hK hP 0 rfl rfl 3 (by decide) lk27 (fun _ h9 => h9) rfl dX0_playerOf_6 ?_
  refine xn_icmp_ge (tgt := 21) hx hb r R rfl hR0 (by omega) (by omega) dX0_playerOf_9 (by decide) (fun c_9 => ?_) (fun c_9 => ?_)
  · skip
    refine lv_iconst (v := (-1 : Int32)) hx hb dX0_playerOf_21 (by decide) ?_
    exact hend _ _ _ (by first | rw [if_pos c_9] | rw [if_neg (by omega)]) dX0_playerOf_22
  · skip
    refine lv_aload_n hx hb dX0_playerOf_12 rfl (lv_at hl 0 rfl) ?_
    refine va_get (ci := 0) (v := .ref (b 2)) (C := RX0) (T := TX0) (N := 6) hx hb hts hi0 hown hK hP 0 rfl rfl 2 (by decide) lk18 (fun _ h9 => h9) rfl dX0_playerOf_13 ?_
    refine lv_iload_n hx hb dX0_playerOf_16 rfl (lv_at hl 1 rfl) ?_
    refine xi_ld hx hb hK hP 3 (f := C 2) rfl r rfl (by omega) (by decide) dX0_playerOf_17 ?_
    refine lv_goto (tgt := 22) hx hb dX0_playerOf_18 (by decide) ?_
    exact hend _ _ _ (by first | rw [if_pos c_9] | rw [if_neg (by omega)]) dX0_playerOf_22

abbrev rm_X0_roleOf : Room := { frames := 0, cells := 0, slots := 0, locals := 0 }
set_option maxHeartbeats 4000000 in
set_option maxRecDepth 100000 in
theorem c_X0_roleOf (l : Launch) (K : KX) (c : Nat) (b : Nat → Nat) (C : HV) (p : Int32) (R : Nat) (hR0 : C 3 0 = nI R) (hR0b : R ≤ 6) : Met l yX0_roleOf wsX0_roleOf rm_X0_roleOf (va_Pc [.ref c, .int p] (xRead K (cw K c b C))) (vp_Si (fun r9 => r9 = fstF (fun r => decide (C 2 r = p)) 0 R)) 0 0 (fun _ => False) := by
  refine xr_starti (cc := cX0_roleOf) (maxL := 3) (by decide) rfl (Nat.le_of_ble_eq_true rfl) ?_
  intro p9 e9 s9 m9 below9 meth9 c9 H ls av9 Q9 hx hb hlocks hml hts hown hK hP hend hl
  have hown : s9.vm.findClass RX0 = some m9.cls := hown
  have hl : lv_has ls 3 [(0, .ref c), (1, .int p)] := hl
  have hi0 : ∀ w ∈ u_ws RX0 TX0 6, w ∈ wsX0_roleOf := by decide +kernel
  have lk27 := hts (.fieldLink RX0 27 "StandIns$Casting" "roles" "I") (by decide +kernel)
  have lk18 := hts (.fieldLink RX0 18 "StandIns$Casting" "cast" "[I") (by decide +kernel)
  refine lv_iconst (v := (0 : Int32)) hx hb dX0_roleOf_0 (by decide) ?_
  refine lv_istore_n (lv' := [(2, .int (0 : Int32)), (0, .ref c), (1, .int p)]) hx hb dX0_roleOf_1 rfl hl (by decide) rfl (fun ls hl => ?_)
  have lp2 : ∀ (n9 : Nat) (k : Nat) (ls : Array Slot), R - k < n9 → (k ≤ R) → (fstF (fun r => decide (C 2 r = p)) 0 R = fstF (fun r => decide (C 2 r = p)) k (R - k)) → lv_has ls 3 [(0, .ref c), (1, .int p), (2, .int (nI k))] → W p9 l e9 rm_X0_roleOf s9 m9 av9 below9 meth9 c9 H [] 0 0 Q9 (F0 m9 2 ls []) := by
    intro n9
    induction n9 with
    | zero => intro k ls hmu hk hF hl; exact absurd hmu (Nat.not_lt_zero _)
    | succ n9 ih2 =>
      intro k ls hmu hk hF hl
      refine lv_iload_n hx hb dX0_roleOf_2 rfl (lv_at hl 2 rfl) ?_
      refine lv_aload_n hx hb dX0_roleOf_3 rfl (lv_at hl 0 rfl) ?_
      refine va_get (ci := 0) (v := .int (C 3 0)) (C := RX0) (T := TX0) (N := 6) hx hb hts hi0 hown hK hP 0 rfl rfl 3 (by decide) lk27 (fun _ h9 => h9) rfl dX0_roleOf_4 ?_
      refine xn_icmp_ge (tgt := 28) hx hb k R rfl hR0 (by omega) (by omega) dX0_roleOf_7 (by decide) (fun c_7 => ?_) (fun c_7 => ?_)
      · skip
        refine lv_iconst (v := (-1 : Int32)) hx hb dX0_roleOf_28 (by decide) ?_
        exact hend _ _ _ (by rw [hF]; exact (fstF_end c_7).symm) dX0_roleOf_29
      · skip
        refine lv_aload_n hx hb dX0_roleOf_10 rfl (lv_at hl 0 rfl) ?_
        refine va_get (ci := 0) (v := .ref (b 2)) (C := RX0) (T := TX0) (N := 6) hx hb hts hi0 hown hK hP 0 rfl rfl 2 (by decide) lk18 (fun _ h9 => h9) rfl dX0_roleOf_11 ?_
        refine lv_iload_n hx hb dX0_roleOf_14 rfl (lv_at hl 2 rfl) ?_
        refine xi_ld hx hb hK hP 3 (f := C 2) rfl k rfl (by omega) (by decide) dX0_roleOf_15 ?_
        refine lv_iload_n hx hb dX0_roleOf_16 rfl (lv_at hl 1 rfl) ?_
        refine lv_icmp_ne (tgt := 22) hx hb dX0_roleOf_17 (by decide) (fun c_17 => ?_) (fun c_17 => ?_)
        · skip
          refine lv_iinc (v := nI (k + 1)) (lv' := [(2, .int (nI (k + 1))), (0, .ref c), (1, .int p)]) hx hb dX0_roleOf_22 hl (k := 2) rfl (nI_1 _) (by decide) rfl (fun ls hl => ?_)
          refine lv_goto (tgt := 2) hx hb dX0_roleOf_25 (by decide) ?_
          exact ih2 (k + 1) _ (by omega) (by first | omega | assumption | first | rfl | (simp [c_7, c_17]; done) | omega) (by rw [hF]; exact fstF_step c_7 (by simp [c_17])) (lv_cons (lv_at hl 1 rfl) (lv_cons (lv_at hl 2 rfl) (lv_cons (lv_at hl 0 rfl) (lv_nil hl))))
        · skip
          refine lv_iload_n hx hb dX0_roleOf_20 rfl (lv_at hl 2 rfl) ?_
          exact hend _ _ _ (by rw [hF]; exact (fstF_hit c_7 (by simp [c_17])).symm) dX0_roleOf_21
  exact lp2 _ 0 _ (Nat.lt_succ_self _) (by first | omega | assumption | first | rfl | (simp; done) | omega) (by first | omega | assumption | first | rfl | (simp; done) | omega) (lv_cons (lv_at hl 1 rfl) (lv_cons (lv_at hl 2 rfl) (lv_cons (lv_is (lv_at hl 0 rfl) (show (0 : Int32) = nI 0 by first | rfl | (simp; done) | omega)) (lv_nil hl))))

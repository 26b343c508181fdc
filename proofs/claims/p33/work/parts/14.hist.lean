/-! the states that are remembered -/
theorem hwR_cutS (K : KX) (hs : Nat → Nat) (as : Nat → Nat → Nat) (SS : Nat → HV) {i n : Nat} (hi : i < n) : ∃ w : va_W, (hwR K hs as SS n).Perm (hw K (hs i) (as i) (SS i) ++ w) ∧ ∀ S' : HV, (hwR K hs as (va_up SS i S') n).Perm (hw K (hs i) (as i) S' ++ w) := by
  obtain ⟨w, h⟩ := hwR_cut K hs as i n hi SS
  refine ⟨w, ?_, h⟩
  have h2 := h (SS i)
  have e : va_up SS i (SS i) = SS := by
    funext j
    unfold va_up
    split <;> simp_all
  rw [e] at h2
  exact h2
theorem cut_in {p q a w : va_W} (h : q.Perm (a ++ w)) : (p ++ q).Perm (p ++ a ++ w) := by
  rw [List.append_assoc]
  exact h.append_left p
theorem join_in {p q a w : va_W} (h : q.Perm (a ++ w)) : (p ++ a ++ w).Perm (p ++ q) := (cut_in h).symm

abbrev rm_X1_isEmpty : Room := { frames := 0, cells := 0, slots := 0, locals := 0 }
set_option maxHeartbeats 4000000 in
set_option maxRecDepth 100000 in
theorem c_X1_isEmpty (l : Launch) (K : KX) (h : Nat) (qs : Nat) (cn : Nat) (nx : Nat) (hcn : cn ≤ 14) : Met l yX1_isEmpty wsX1_isEmpty rm_X1_isEmpty (va_Pc [.ref h] (xRead K ([(h, .inr (1, [.ref qs, .int (nI cn), .int (nI nx)]))]))) (vp_Si (fun r9 => r9 = bI (cn = 0))) 0 0 (fun _ => False) := by
  refine xr_startz (cc := cX1_isEmpty) (maxL := 1) (ret := .boolean) (by decide) rfl (Nat.le_of_ble_eq_true rfl) ?_
  intro p9 e9 s9 m9 below9 meth9 c9 H ls av9 Q9 hx hb hlocks hml hts hown hK hP hend hl
  have hown : s9.vm.findClass RX1 = some m9.cls := hown
  have hl : lv_has ls 1 [(0, .ref h)] := hl
  have hi1 : ∀ w ∈ u_ws RX1 TX1 3, w ∈ wsX1_isEmpty := by decide +kernel
  have lk18 := hts (.fieldLink RX1 18 "StandIns$History" "count" "I") (by decide +kernel)
  refine lv_aload_n hx hb dX1_isEmpty_0 rfl (lv_at hl 0 rfl) ?_
  refine va_get (ci := 1) (v := .int (nI cn)) (C := RX1) (T := TX1) (N := 3) hx hb hts hi1 hown hK hP 0 rfl rfl 1 (by decide) lk18 (fun _ h9 => h9) rfl dX1_isEmpty_1 ?_
  refine xn_if_ne (tgt := 11) hx hb cn rfl (by omega) dX1_isEmpty_4 (by decide) (fun c_4 => ?_) (fun c_4 => ?_)
  · skip
    refine lv_iconst (v := (0 : Int32)) hx hb dX1_isEmpty_11 (by decide) ?_
    exact hend _ _ _ (by decide) (by first | rfl | (simp [bI, c_4]; done) | omega) dX1_isEmpty_12
  · skip
    refine lv_iconst (v := (1 : Int32)) hx hb dX1_isEmpty_7 (by decide) ?_
    refine lv_goto (tgt := 12) hx hb dX1_isEmpty_8 (by decide) ?_
    exact hend _ _ _ (by decide) (by first | rfl | (simp [bI, c_4]; done) | omega) dX1_isEmpty_12

abbrev rm_X1_size : Room := { frames := 0, cells := 0, slots := 0, locals := 0 }
set_option maxHeartbeats 4000000 in
set_option maxRecDepth 100000 in
theorem c_X1_size (l : Launch) (K : KX) (h : Nat) (qs : Nat) (cn : Nat) (nx : Nat) : Met l yX1_size wsX1_size rm_X1_size (va_Pc [.ref h] (xRead K ([(h, .inr (1, [.ref qs, .int (nI cn), .int (nI nx)]))]))) (vp_Si (fun r9 => r9 = nI cn)) 0 0 (fun _ => False) := by
  refine xr_starti (cc := cX1_size) (maxL := 1) (by decide) rfl (Nat.le_of_ble_eq_true rfl) ?_
  intro p9 e9 s9 m9 below9 meth9 c9 H ls av9 Q9 hx hb hlocks hml hts hown hK hP hend hl
  have hown : s9.vm.findClass RX1 = some m9.cls := hown
  have hl : lv_has ls 1 [(0, .ref h)] := hl
  have hi1 : ∀ w ∈ u_ws RX1 TX1 3, w ∈ wsX1_size := by decide +kernel
  have lk18 := hts (.fieldLink RX1 18 "StandIns$History" "count" "I") (by decide +kernel)
  refine lv_aload_n hx hb dX1_size_0 rfl (lv_at hl 0 rfl) ?_
  refine va_get (ci := 1) (v := .int (nI cn)) (C := RX1) (T := TX1) (N := 3) hx hb hts hi1 hown hK hP 0 rfl rfl 1 (by decide) lk18 (fun _ h9 => h9) rfl dX1_size_1 ?_
  exact hend _ _ _ (by first | rfl | (simp; done) | omega) dX1_size_4

abbrev rm_X1_remember : Room := { frames := 2, cells := 0, slots := 0, locals := 43 }
set_option maxHeartbeats 4000000 in
set_option maxRecDepth 100000 in
theorem c_X1_remember (l : Launch) (K : KX) (h : Nat) (qs : Nat) (cn : Nat) (nx : Nat) (o : Nat) (oa : Nat → Nat) (S : HV) (hs : Nat → Nat) (as : Nat → Nat → Nat) (Ss : Nat → HV) (hcn : cn ≤ 14) (hnx : nx < 14) (hz : S 16 0 = 0 ∨ S 16 0 = 1) (sz : Nat) : Met l yX1_remember wsX1_remember rm_X1_remember (va_Pc [.ref h, .ref o] (xPre K ([(h, .inr (1, [.ref qs, .int (nI cn), .int (nI nx)]))] ++ hw K o oa S ++ [(qs, aQ K 14 (fun j => some (hs j)))] ++ hwR K hs as Ss 14) sz)) (va_Qv (fun _u : Unit => True) (fun _u t => xPost K (va_A ([(h, .inr (1, [.ref qs, .int (nI cn), .int (nI nx)]))] ++ hw K o oa S ++ [(qs, aQ K 14 (fun j => some (hs j)))] ++ hwR K hs as Ss 14) sz) ([(h, .inr (1, [.ref qs, .int (nI (if cn < 14 then cn + 1 else cn)), .int (nI (if nx + 1 < 14 then nx + 1 else 0))]))] ++ hw K o oa S ++ [(qs, aQ K 14 (fun j => some (hs j)))] ++ hwR K hs as (va_up Ss nx S) 14) t) (va_A ([(h, .inr (1, [.ref qs, .int (nI cn), .int (nI nx)]))] ++ hw K o oa S ++ [(qs, aQ K 14 (fun j => some (hs j)))] ++ hwR K hs as Ss 14) sz)) 0 0 (va_A ([(h, .inr (1, [.ref qs, .int (nI cn), .int (nI nx)]))] ++ hw K o oa S ++ [(qs, aQ K 14 (fun j => some (hs j)))] ++ hwR K hs as Ss 14) sz) := by
  refine xw_startv (cc := cX1_remember) (maxL := 2) (by decide) rfl (Nat.le_of_ble_eq_true rfl) ?_
  intro p9 e9 s9 m9 below9 meth9 c9 H locs ls A av9 Q9 hx hb hlocks hml hname hts hown hK hP hD hS hA hsz hend hl
  have hown : s9.vm.findClass RX1 = some m9.cls := hown
  have hl : lv_has ls 2 [(0, .ref h), (1, .ref o)] := hl
  have hi1 : ∀ w ∈ u_ws RX1 TX1 3, w ∈ wsX1_remember := by decide +kernel
  have lk11 := hts (.fieldLink RX1 11 "StandIns$History" "states" "[LStandIns$House;") (by decide +kernel)
  have lk22 := hts (.fieldLink RX1 22 "StandIns$History" "next" "I") (by decide +kernel)
  have lk18 := hts (.fieldLink RX1 18 "StandIns$History" "count" "I") (by decide +kernel)
  refine lv_aload_n hx hb dX1_remember_0 rfl (lv_at hl 0 rfl) ?_
  refine va_get (ci := 1) (v := .ref qs) (C := RX1) (T := TX1) (N := 3) hx hb hts hi1 hown hK hP 0 rfl rfl 0 (by decide) lk11 (fun _ h9 => h9) rfl dX1_remember_1 ?_
  refine lv_aload_n hx hb dX1_remember_4 rfl (lv_at hl 0 rfl) ?_
  refine va_get (ci := 1) (v := .int (nI nx)) (C := RX1) (T := TX1) (N := 3) hx hb hts hi1 hown hK hP 0 rfl rfl 2 (by decide) lk22 (fun _ h9 => h9) rfl dX1_remember_5 ?_
  refine xq_ld hx hb hK hP 12 (f := fun j => some (hs j)) rfl nx rfl (by omega) (by decide) (v := hs nx) rfl dX1_remember_8 ?_
  refine lv_aload_n hx hb dX1_remember_9 rfl (lv_at hl 1 rfl) ?_
  obtain ⟨w9, w9a, w9b⟩ := hwR_cutS K hs as Ss (i := nx) (n := 14) (by omega)
  have hP : va_P K.1 vwCl ([(h, .inr (1, [.ref qs, .int (nI cn), .int (nI nx)]))] ++ hw K o oa S ++ [(qs, aQ K 14 (fun j => some (hs j)))] ++ hw K (hs nx) (as nx) (Ss nx) ++ w9) H := P_perm (cut_in (p := [(h, .inr (1, [.ref qs, .int (nI cn), .int (nI nx)]))] ++ hw K o oa S ++ [(qs, aQ K 14 (fun j => some (hs j)))]) w9a) hP
  have hD : va_D A ([(h, .inr (1, [.ref qs, .int (nI cn), .int (nI nx)]))] ++ hw K o oa S ++ [(qs, aQ K 14 (fun j => some (hs j)))] ++ hw K (hs nx) (as nx) (Ss nx) ++ w9) := D_perm (cut_in (p := [(h, .inr (1, [.ref qs, .int (nI cn), .int (nI nx)]))] ++ hw K o oa S ++ [(qs, aQ K 14 (fun j => some (hs j)))]) w9a) hD
  have hpm10 : ([(h, .inr (1, [.ref qs, .int (nI cn), .int (nI nx)]))] ++ hw K o oa S ++ [(qs, aQ K 14 (fun j => some (hs j)))] ++ hw K (hs nx) (as nx) (Ss nx) ++ w9 : va_W).Perm ((hw K (hs nx) (as nx) (Ss nx) ++ hw K o oa S : va_W) ++ ([(h, .inr (1, [.ref qs, .int (nI cn), .int (nI nx)]))] ++ [(qs, aQ K 14 (fun j => some (hs j)))] ++ w9 : va_W)) := perm_split ([[(h, .inr (1, [.ref qs, .int (nI cn), .int (nI nx)]))], hw K o oa S, [(qs, aQ K 14 (fun j => some (hs j)))], hw K (hs nx) (as nx) (Ss nx), w9] : List va_W) 5 rfl [3, 1] [0, 2, 4] (by decide)
  have hpn10 : ∀ (_u : Unit), ((hw K (hs nx) (as nx) S ++ hw K o oa S : va_W) ++ ([(h, .inr (1, [.ref qs, .int (nI cn), .int (nI nx)]))] ++ [(qs, aQ K 14 (fun j => some (hs j)))] ++ w9 : va_W)).Perm ([(h, .inr (1, [.ref qs, .int (nI cn), .int (nI nx)]))] ++ hw K o oa S ++ [(qs, aQ K 14 (fun j => some (hs j)))] ++ hw K (hs nx) (as nx) S ++ w9) := fun _u => (perm_split ([[(h, .inr (1, [.ref qs, .int (nI cn), .int (nI nx)]))], hw K o oa S, [(qs, aQ K 14 (fun j => some (hs j)))], hw K (hs nx) (as nx) S, w9] : List va_W) 5 rfl [3, 1] [0, 2, 4] (by decide)).symm
  refine pw_Vv (As := [.ref o]) (rest := []) (wc := hw K (hs nx) (as nx) (Ss nx) ++ hw K o oa S) (wr := [(h, .inr (1, [.ref qs, .int (nI cn), .int (nI nx)]))] ++ [(qs, aQ K 14 (fun j => some (hs j)))] ++ w9) ⟨hx, hb, hml, hown, hts⟩ (c_X2_copyFrom l K (hs nx) (as nx) (Ss nx) o oa S (by first | assumption | omega) H.size) (cwV 1 hts gX1_remember_X2_copyFrom rfl rfl rfl (by decide +kernel) ⟨Nat.le_of_ble_eq_true rfl, Nat.le_of_ble_eq_true rfl⟩) hK hP hD hS hA hpm10 (fun _u => [(h, .inr (1, [.ref qs, .int (nI cn), .int (nI nx)]))] ++ hw K o oa S ++ [(qs, aQ K 14 (fun j => some (hs j)))] ++ hw K (hs nx) (as nx) S ++ w9) hpn10 0 2 rfl rfl rfl rfl hl.1 rfl (Nat.le_of_ble_eq_true rfl) (Nat.le_of_ble_eq_true rfl) (Nat.le_of_ble_eq_true rfl) dX1_remember_10 (fun _ H locs hq10 hP hD hS => ?_)
  have hP : va_P K.1 vwCl ([(h, .inr (1, [.ref qs, .int (nI cn), .int (nI nx)]))] ++ hw K o oa S ++ [(qs, aQ K 14 (fun j => some (hs j)))] ++ hw K (hs nx) (as nx) S ++ w9) H := hP
  have hD : va_D A ([(h, .inr (1, [.ref qs, .int (nI cn), .int (nI nx)]))] ++ hw K o oa S ++ [(qs, aQ K 14 (fun j => some (hs j)))] ++ hw K (hs nx) (as nx) S ++ w9) := hD
  have hP : va_P K.1 vwCl ([(h, .inr (1, [.ref qs, .int (nI cn), .int (nI nx)]))] ++ hw K o oa S ++ [(qs, aQ K 14 (fun j => some (hs j)))] ++ hwR K hs as (va_up Ss nx S) 14) H := P_perm (join_in (p := [(h, .inr (1, [.ref qs, .int (nI cn), .int (nI nx)]))] ++ hw K o oa S ++ [(qs, aQ K 14 (fun j => some (hs j)))]) (w9b S)) hP
  have hD : va_D A ([(h, .inr (1, [.ref qs, .int (nI cn), .int (nI nx)]))] ++ hw K o oa S ++ [(qs, aQ K 14 (fun j => some (hs j)))] ++ hwR K hs as (va_up Ss nx S) 14) := D_perm (join_in (p := [(h, .inr (1, [.ref qs, .int (nI cn), .int (nI nx)]))] ++ hw K o oa S ++ [(qs, aQ K 14 (fun j => some (hs j)))]) (w9b S)) hD
  refine lv_aload_n hx hb dX1_remember_13 rfl (lv_at hl 0 rfl) ?_
  refine lv_aload_n hx hb dX1_remember_14 rfl (lv_at hl 0 rfl) ?_
  refine va_get (ci := 1) (v := .int (nI nx)) (C := RX1) (T := TX1) (N := 3) hx hb hts hi1 hown hK hP 0 rfl rfl 2 (by decide) lk22 (fun _ h9 => h9) rfl dX1_remember_15 ?_
  refine lv_iconst (v := (1 : Int32)) hx hb dX1_remember_18 (by decide) ?_
  refine lv_iadd hx hb dX1_remember_19 ?_
  refine lv_bipush (v := (14 : Int32)) hx hb dX1_remember_20 (by decide) ?_
  refine xn_icmp_ge (tgt := 34) hx hb (nx + 1) 14 (nn_add rfl rfl) rfl (by omega) (by decide) dX1_remember_22 (by decide) (fun c_22 => ?_) (fun c_22 => ?_)
  · skip
    refine lv_iconst (v := (0 : Int32)) hx hb dX1_remember_34 (by decide) ?_
    rw [show (0 : Int32) = nI 0 from rfl]
    refine va_put (ci := 1) (v := .int (nI 0)) (ty := .int) (C := RX1) (T := TX1) (N := 3) hx hb hts hi1 tyX1 tyX1_ok nmX1 hown hK hP hD hS 0 rfl rfl 2 (by decide) lk22 (fun _ h9 => h9) rfl (by decide +kernel) rfl rfl (Nat.le_of_ble_eq_true rfl) dX1_remember_35 (fun H locs hP hD hS => ?_)
    have hP : va_P K.1 vwCl ([(h, .inr (1, [.ref qs, .int (nI cn), .int (nI 0)]))] ++ hw K o oa S ++ [(qs, aQ K 14 (fun j => some (hs j)))] ++ hwR K hs as (va_up Ss nx S) 14) H := hP
    have hD : va_D A ([(h, .inr (1, [.ref qs, .int (nI cn), .int (nI 0)]))] ++ hw K o oa S ++ [(qs, aQ K 14 (fun j => some (hs j)))] ++ hwR K hs as (va_up Ss nx S) 14) := hD
    refine lv_aload_n hx hb dX1_remember_38 rfl (lv_at hl 0 rfl) ?_
    refine va_get (ci := 1) (v := .int (nI cn)) (C := RX1) (T := TX1) (N := 3) hx hb hts hi1 hown hK hP 0 rfl rfl 1 (by decide) lk18 (fun _ h9 => h9) rfl dX1_remember_39 ?_
    refine lv_bipush (v := (14 : Int32)) hx hb dX1_remember_42 (by decide) ?_
    refine xn_icmp_ge (tgt := 57) hx hb cn 14 rfl rfl (by omega) (by decide) dX1_remember_44 (by decide) (fun c_44 => ?_) (fun c_44 => ?_)
    · skip
      have eW : ([(h, .inr (1, [.ref qs, .int (nI cn), .int (nI 0)]))] ++ hw K o oa S ++ [(qs, aQ K 14 (fun j => some (hs j)))] ++ hwR K hs as (va_up Ss nx S) 14 : va_W) = [(h, .inr (1, [.ref qs, .int (nI (if cn < 14 then cn + 1 else cn)), .int (nI (if nx + 1 < 14 then nx + 1 else 0))]))] ++ hw K o oa S ++ [(qs, aQ K 14 (fun j => some (hs j)))] ++ hwR K hs as (va_up Ss nx S) 14 := by (first | rw [if_pos (show nx + 1 < 14 by omega)] | rw [if_neg (show ¬ nx + 1 < 14 by omega)]) <;> (first | rw [if_pos (show cn < 14 by omega)] | rw [if_neg (show ¬ cn < 14 by omega)])
      have hP : va_P K.1 vwCl ([(h, .inr (1, [.ref qs, .int (nI (if cn < 14 then cn + 1 else cn)), .int (nI (if nx + 1 < 14 then nx + 1 else 0))]))] ++ hw K o oa S ++ [(qs, aQ K 14 (fun j => some (hs j)))] ++ hwR K hs as (va_up Ss nx S) 14) H := by rw [← eW]; exact hP
      have hD : va_D A ([(h, .inr (1, [.ref qs, .int (nI (if cn < 14 then cn + 1 else cn)), .int (nI (if nx + 1 < 14 then nx + 1 else 0))]))] ++ hw K o oa S ++ [(qs, aQ K 14 (fun j => some (hs j)))] ++ hwR K hs as (va_up Ss nx S) 14) := by rw [← eW]; exact hD
      exact hend _ _ _ _ _ _ () hP hD hS (Nat.le_of_ble_eq_true rfl) (Nat.le_of_ble_eq_true rfl) trivial dX1_remember_57
    · skip
      refine lv_aload_n hx hb dX1_remember_47 rfl (lv_at hl 0 rfl) ?_
      refine lv_dup hx hb dX1_remember_48 rfl ?_
      refine va_get (ci := 1) (v := .int (nI cn)) (C := RX1) (T := TX1) (N := 3) hx hb hts hi1 hown hK hP 0 rfl rfl 1 (by decide) lk18 (fun _ h9 => h9) rfl dX1_remember_49 ?_
      refine lv_iconst (v := (1 : Int32)) hx hb dX1_remember_52 (by decide) ?_
      refine lv_iadd hx hb dX1_remember_53 ?_
      rw [show (nI cn) + (1 : Int32) = nI (cn + 1) from (nn_add rfl rfl)]
      refine va_put (ci := 1) (v := .int (nI (cn + 1))) (ty := .int) (C := RX1) (T := TX1) (N := 3) hx hb hts hi1 tyX1 tyX1_ok nmX1 hown hK hP hD hS 0 rfl rfl 1 (by decide) lk18 (fun _ h9 => h9) rfl (by decide +kernel) rfl rfl (Nat.le_of_ble_eq_true rfl) dX1_remember_54 (fun H locs hP hD hS => ?_)
      have hP : va_P K.1 vwCl ([(h, .inr (1, [.ref qs, .int (nI (cn + 1)), .int (nI 0)]))] ++ hw K o oa S ++ [(qs, aQ K 14 (fun j => some (hs j)))] ++ hwR K hs as (va_up Ss nx S) 14) H := hP
      have hD : va_D A ([(h, .inr (1, [.ref qs, .int (nI (cn + 1)), .int (nI 0)]))] ++ hw K o oa S ++ [(qs, aQ K 14 (fun j => some (hs j)))] ++ hwR K hs as (va_up Ss nx S) 14) := hD
      have eW : ([(h, .inr (1, [.ref qs, .int (nI (cn + 1)), .int (nI 0)]))] ++ hw K o oa S ++ [(qs, aQ K 14 (fun j => some (hs j)))] ++ hwR K hs as (va_up Ss nx S) 14 : va_W) = [(h, .inr (1, [.ref qs, .int (nI (if cn < 14 then cn + 1 else cn)), .int (nI (if nx + 1 < 14 then nx + 1 else 0))]))] ++ hw K o oa S ++ [(qs, aQ K 14 (fun j => some (hs j)))] ++ hwR K hs as (va_up Ss nx S) 14 := by (first | rw [if_pos (show nx + 1 < 14 by omega)] | rw [if_neg (show ¬ nx + 1 < 14 by omega)]) <;> (first | rw [if_pos (show cn < 14 by omega)] | rw [if_neg (show ¬ cn < 14 by omega)])
      have hP : va_P K.1 vwCl ([(h, .inr (1, [.ref qs, .int (nI (if cn < 14 then cn + 1 else cn)), .int (nI (if nx + 1 < 14 then nx + 1 else 0))]))] ++ hw K o oa S ++ [(qs, aQ K 14 (fun j => some (hs j)))] ++ hwR K hs as (va_up Ss nx S) 14) H := by rw [← eW]; exact hP
      have hD : va_D A ([(h, .inr (1, [.ref qs, .int (nI (if cn < 14 then cn + 1 else cn)), .int (nI (if nx + 1 < 14 then nx + 1 else 0))]))] ++ hw K o oa S ++ [(qs, aQ K 14 (fun j => some (hs j)))] ++ hwR K hs as (va_up Ss nx S) 14) := by rw [← eW]; exact hD
      exact hend _ _ _ _ _ _ () hP hD hS (Nat.le_of_ble_eq_true rfl) (Nat.le_of_ble_eq_true rfl) trivial dX1_remember_57
  · skip
    refine lv_aload_n hx hb dX1_remember_25 rfl (lv_at hl 0 rfl) ?_
    refine va_get (ci := 1) (v := .int (nI nx)) (C := RX1) (T := TX1) (N := 3) hx hb hts hi1 hown hK hP 0 rfl rfl 2 (by decide) lk22 (fun _ h9 => h9) rfl dX1_remember_26 ?_
    refine lv_iconst (v := (1 : Int32)) hx hb dX1_remember_29 (by decide) ?_
    refine lv_iadd hx hb dX1_remember_30 ?_
    refine lv_goto (tgt := 35) hx hb dX1_remember_31 (by decide) ?_
    rw [show (nI nx) + (1 : Int32) = nI (nx + 1) from (nn_add rfl rfl)]
    refine va_put (ci := 1) (v := .int (nI (nx + 1))) (ty := .int) (C := RX1) (T := TX1) (N := 3) hx hb hts hi1 tyX1 tyX1_ok nmX1 hown hK hP hD hS 0 rfl rfl 2 (by decide) lk22 (fun _ h9 => h9) rfl (by decide +kernel) rfl rfl (Nat.le_of_ble_eq_true rfl) dX1_remember_35 (fun H locs hP hD hS => ?_)
    have hP : va_P K.1 vwCl ([(h, .inr (1, [.ref qs, .int (nI cn), .int (nI (nx + 1))]))] ++ hw K o oa S ++ [(qs, aQ K 14 (fun j => some (hs j)))] ++ hwR K hs as (va_up Ss nx S) 14) H := hP
    have hD : va_D A ([(h, .inr (1, [.ref qs, .int (nI cn), .int (nI (nx + 1))]))] ++ hw K o oa S ++ [(qs, aQ K 14 (fun j => some (hs j)))] ++ hwR K hs as (va_up Ss nx S) 14) := hD
    refine lv_aload_n hx hb dX1_remember_38 rfl (lv_at hl 0 rfl) ?_
    refine va_get (ci := 1) (v := .int (nI cn)) (C := RX1) (T := TX1) (N := 3) hx hb hts hi1 hown hK hP 0 rfl rfl 1 (by decide) lk18 (fun _ h9 => h9) rfl dX1_remember_39 ?_
    refine lv_bipush (v := (14 : Int32)) hx hb dX1_remember_42 (by decide) ?_
    refine xn_icmp_ge (tgt := 57) hx hb cn 14 rfl rfl (by omega) (by decide) dX1_remember_44 (by decide) (fun c_44 => ?_) (fun c_44 => ?_)
    · skip
      have eW : ([(h, .inr (1, [.ref qs, .int (nI cn), .int (nI (nx + 1))]))] ++ hw K o oa S ++ [(qs, aQ K 14 (fun j => some (hs j)))] ++ hwR K hs as (va_up Ss nx S) 14 : va_W) = [(h, .inr (1, [.ref qs, .int (nI (if cn < 14 then cn + 1 else cn)), .int (nI (if nx + 1 < 14 then nx + 1 else 0))]))] ++ hw K o oa S ++ [(qs, aQ K 14 (fun j => some (hs j)))] ++ hwR K hs as (va_up Ss nx S) 14 := by (first | rw [if_pos (show nx + 1 < 14 by omega)] | rw [if_neg (show ¬ nx + 1 < 14 by omega)]) <;> (first | rw [if_pos (show cn < 14 by omega)] | rw [if_neg (show ¬ cn < 14 by omega)])
      have hP : va_P K.1 vwCl ([(h, .inr (1, [.ref qs, .int (nI (if cn < 14 then cn + 1 else cn)), .int (nI (if nx + 1 < 14 then nx + 1 else 0))]))] ++ hw K o oa S ++ [(qs, aQ K 14 (fun j => some (hs j)))] ++ hwR K hs as (va_up Ss nx S) 14) H := by rw [← eW]; exact hP
      have hD : va_D A ([(h, .inr (1, [.ref qs, .int (nI (if cn < 14 then cn + 1 else cn)), .int (nI (if nx + 1 < 14 then nx + 1 else 0))]))] ++ hw K o oa S ++ [(qs, aQ K 14 (fun j => some (hs j)))] ++ hwR K hs as (va_up Ss nx S) 14) := by rw [← eW]; exact hD
      exact hend _ _ _ _ _ _ () hP hD hS (Nat.le_of_ble_eq_true rfl) (Nat.le_of_ble_eq_true rfl) trivial dX1_remember_57
    · skip
      refine lv_aload_n hx hb dX1_remember_47 rfl (lv_at hl 0 rfl) ?_
      refine lv_dup hx hb dX1_remember_48 rfl ?_
      refine va_get (ci := 1) (v := .int (nI cn)) (C := RX1) (T := TX1) (N := 3) hx hb hts hi1 hown hK hP 0 rfl rfl 1 (by decide) lk18 (fun _ h9 => h9) rfl dX1_remember_49 ?_
      refine lv_iconst (v := (1 : Int32)) hx hb dX1_remember_52 (by decide) ?_
      refine lv_iadd hx hb dX1_remember_53 ?_
      rw [show (nI cn) + (1 : Int32) = nI (cn + 1) from (nn_add rfl rfl)]
      refine va_put (ci := 1) (v := .int (nI (cn + 1))) (ty := .int) (C := RX1) (T := TX1) (N := 3) hx hb hts hi1 tyX1 tyX1_ok nmX1 hown hK hP hD hS 0 rfl rfl 1 (by decide) lk18 (fun _ h9 => h9) rfl (by decide +kernel) rfl rfl (Nat.le_of_ble_eq_true rfl) dX1_remember_54 (fun H locs hP hD hS => ?_)
      have hP : va_P K.1 vwCl ([(h, .inr (1, [.ref qs, .int (nI (cn + 1)), .int (nI (nx + 1))]))] ++ hw K o oa S ++ [(qs, aQ K 14 (fun j => some (hs j)))] ++ hwR K hs as (va_up Ss nx S) 14) H := hP
      have hD : va_D A ([(h, .inr (1, [.ref qs, .int (nI (cn + 1)), .int (nI (nx + 1))]))] ++ hw K o oa S ++ [(qs, aQ K 14 (fun j => some (hs j)))] ++ hwR K hs as (va_up Ss nx S) 14) := hD
      have eW : ([(h, .inr (1, [.ref qs, .int (nI (cn + 1)), .int (nI (nx + 1))]))] ++ hw K o oa S ++ [(qs, aQ K 14 (fun j => some (hs j)))] ++ hwR K hs as (va_up Ss nx S) 14 : va_W) = [(h, .inr (1, [.ref qs, .int (nI (if cn < 14 then cn + 1 else cn)), .int (nI (if nx + 1 < 14 then nx + 1 else 0))]))] ++ hw K o oa S ++ [(qs, aQ K 14 (fun j => some (hs j)))] ++ hwR K hs as (va_up Ss nx S) 14 := by (first | rw [if_pos (show nx + 1 < 14 by omega)] | rw [if_neg (show ¬ nx + 1 < 14 by omega)]) <;> (first | rw [if_pos (show cn < 14 by omega)] | rw [if_neg (show ¬ cn < 14 by omega)])
      have hP : va_P K.1 vwCl ([(h, .inr (1, [.ref qs, .int (nI (if cn < 14 then cn + 1 else cn)), .int (nI (if nx + 1 < 14 then nx + 1 else 0))]))] ++ hw K o oa S ++ [(qs, aQ K 14 (fun j => some (hs j)))] ++ hwR K hs as (va_up Ss nx S) 14) H := by rw [← eW]; exact hP
      have hD : va_D A ([(h, .inr (1, [.ref qs, .int (nI (if cn < 14 then cn + 1 else cn)), .int (nI (if nx + 1 < 14 then nx + 1 else 0))]))] ++ hw K o oa S ++ [(qs, aQ K 14 (fun j => some (hs j)))] ++ hwR K hs as (va_up Ss nx S) 14) := by rw [← eW]; exact hD
      exact hend _ _ _ _ _ _ () hP hD hS (Nat.le_of_ble_eq_true rfl) (Nat.le_of_ble_eq_true rfl) trivial dX1_remember_57

abbrev rm_X1_takeBack : Room := { frames := 2, cells := 0, slots := 0, locals := 43 }
set_option maxHeartbeats 4000000 in
set_option maxRecDepth 100000 in
theorem c_X1_takeBack (l : Launch) (K : KX) (h : Nat) (qs : Nat) (cn : Nat) (nx : Nat) (o : Nat) (oa : Nat → Nat) (S : HV) (hs : Nat → Nat) (as : Nat → Nat → Nat) (Ss : Nat → HV) (hcn : cn ≤ 14) (hc0 : 0 < cn) (hnx : nx < 14) (hzS : ∀ i, i < 14 → Ss i 16 0 = 0 ∨ Ss i 16 0 = 1) (sz : Nat) : Met l yX1_takeBack wsX1_takeBack rm_X1_takeBack (va_Pc [.ref h, .ref o] (xPre K ([(h, .inr (1, [.ref qs, .int (nI cn), .int (nI nx)]))] ++ hw K o oa S ++ [(qs, aQ K 14 (fun j => some (hs j)))] ++ hwR K hs as Ss 14) sz)) (va_Qv (fun _u : Unit => True) (fun _u t => xPost K (va_A ([(h, .inr (1, [.ref qs, .int (nI cn), .int (nI nx)]))] ++ hw K o oa S ++ [(qs, aQ K 14 (fun j => some (hs j)))] ++ hwR K hs as Ss 14) sz) ([(h, .inr (1, [.ref qs, .int (nI (cn - 1)), .int (nI (if 0 < nx then nx - 1 else 13))]))] ++ hw K o oa (Ss (if 0 < nx then nx - 1 else 13)) ++ [(qs, aQ K 14 (fun j => some (hs j)))] ++ hwR K hs as Ss 14) t) (va_A ([(h, .inr (1, [.ref qs, .int (nI cn), .int (nI nx)]))] ++ hw K o oa S ++ [(qs, aQ K 14 (fun j => some (hs j)))] ++ hwR K hs as Ss 14) sz)) 0 0 (va_A ([(h, .inr (1, [.ref qs, .int (nI cn), .int (nI nx)]))] ++ hw K o oa S ++ [(qs, aQ K 14 (fun j => some (hs j)))] ++ hwR K hs as Ss 14) sz) := by
  refine xw_startv (cc := cX1_takeBack) (maxL := 2) (by decide) rfl (Nat.le_of_ble_eq_true rfl) ?_
  intro p9 e9 s9 m9 below9 meth9 c9 H locs ls A av9 Q9 hx hb hlocks hml hname hts hown hK hP hD hS hA hsz hend hl
  have hown : s9.vm.findClass RX1 = some m9.cls := hown
  have hl : lv_has ls 2 [(0, .ref h), (1, .ref o)] := hl
  have hi1 : ∀ w ∈ u_ws RX1 TX1 3, w ∈ wsX1_takeBack := by decide +kernel
  have lk18 := hts (.fieldLink RX1 18 "StandIns$History" "count" "I") (by decide +kernel)
  have lk22 := hts (.fieldLink RX1 22 "StandIns$History" "next" "I") (by decide +kernel)
  have lk11 := hts (.fieldLink RX1 11 "StandIns$History" "states" "[LStandIns$House;") (by decide +kernel)
  refine lv_aload_n hx hb dX1_takeBack_0 rfl (lv_at hl 0 rfl) ?_
  refine va_get (ci := 1) (v := .int (nI cn)) (C := RX1) (T := TX1) (N := 3) hx hb hts hi1 hown hK hP 0 rfl rfl 1 (by decide) lk18 (fun _ h9 => h9) rfl dX1_takeBack_1 ?_
  refine xn_if_ne (tgt := 8) hx hb cn rfl (by omega) dX1_takeBack_4 (by decide) (fun c_4 => ?_) (fun c_4 => ?_)
  · skip
    refine lv_aload_n hx hb dX1_takeBack_8 rfl (lv_at hl 0 rfl) ?_
    refine lv_aload_n hx hb dX1_takeBack_9 rfl (lv_at hl 0 rfl) ?_
    refine va_get (ci := 1) (v := .int (nI nx)) (C := RX1) (T := TX1) (N := 3) hx hb hts hi1 hown hK hP 0 rfl rfl 2 (by decide) lk22 (fun _ h9 => h9) rfl dX1_takeBack_10 ?_
    refine xn_if_le (tgt := 25) hx hb nx rfl (by omega) dX1_takeBack_13 (by decide) (fun c_13 => ?_) (fun c_13 => ?_)
    · skip
      refine lv_bipush (v := (13 : Int32)) hx hb dX1_takeBack_25 (by decide) ?_
      rw [show (13 : Int32) = nI 13 from rfl]
      refine va_put (ci := 1) (v := .int (nI 13)) (ty := .int) (C := RX1) (T := TX1) (N := 3) hx hb hts hi1 tyX1 tyX1_ok nmX1 hown hK hP hD hS 0 rfl rfl 2 (by decide) lk22 (fun _ h9 => h9) rfl (by decide +kernel) rfl rfl (Nat.le_of_ble_eq_true rfl) dX1_takeBack_27 (fun H locs hP hD hS => ?_)
      have hP : va_P K.1 vwCl ([(h, .inr (1, [.ref qs, .int (nI cn), .int (nI 13)]))] ++ hw K o oa S ++ [(qs, aQ K 14 (fun j => some (hs j)))] ++ hwR K hs as Ss 14) H := hP
      have hD : va_D A ([(h, .inr (1, [.ref qs, .int (nI cn), .int (nI 13)]))] ++ hw K o oa S ++ [(qs, aQ K 14 (fun j => some (hs j)))] ++ hwR K hs as Ss 14) := hD
      refine lv_aload_n hx hb dX1_takeBack_30 rfl (lv_at hl 0 rfl) ?_
      refine lv_dup hx hb dX1_takeBack_31 rfl ?_
      refine va_get (ci := 1) (v := .int (nI cn)) (C := RX1) (T := TX1) (N := 3) hx hb hts hi1 hown hK hP 0 rfl rfl 1 (by decide) lk18 (fun _ h9 => h9) rfl dX1_takeBack_32 ?_
      refine lv_iconst (v := (1 : Int32)) hx hb dX1_takeBack_35 (by decide) ?_
      refine lv_isub hx hb dX1_takeBack_36 ?_
      rw [show (nI cn) - (1 : Int32) = nI (cn - 1) from (nn_sub rfl rfl (by omega))]
      refine va_put (ci := 1) (v := .int (nI (cn - 1))) (ty := .int) (C := RX1) (T := TX1) (N := 3) hx hb hts hi1 tyX1 tyX1_ok nmX1 hown hK hP hD hS 0 rfl rfl 1 (by decide) lk18 (fun _ h9 => h9) rfl (by decide +kernel) rfl rfl (Nat.le_of_ble_eq_true rfl) dX1_takeBack_37 (fun H locs hP hD hS => ?_)
      have hP : va_P K.1 vwCl ([(h, .inr (1, [.ref qs, .int (nI (cn - 1)), .int (nI 13)]))] ++ hw K o oa S ++ [(qs, aQ K 14 (fun j => some (hs j)))] ++ hwR K hs as Ss 14) H := hP
      have hD : va_D A ([(h, .inr (1, [.ref qs, .int (nI (cn - 1)), .int (nI 13)]))] ++ hw K o oa S ++ [(qs, aQ K 14 (fun j => some (hs j)))] ++ hwR K hs as Ss 14) := hD
      refine lv_aload_n hx hb dX1_takeBack_40 rfl (lv_at hl 1 rfl) ?_
      refine lv_aload_n hx hb dX1_takeBack_41 rfl (lv_at hl 0 rfl) ?_
      refine va_get (ci := 1) (v := .ref qs) (C := RX1) (T := TX1) (N := 3) hx hb hts hi1 hown hK hP 0 rfl rfl 0 (by decide) lk11 (fun _ h9 => h9) rfl dX1_takeBack_42 ?_
      refine lv_aload_n hx hb dX1_takeBack_45 rfl (lv_at hl 0 rfl) ?_
      refine va_get (ci := 1) (v := .int (nI 13)) (C := RX1) (T := TX1) (N := 3) hx hb hts hi1 hown hK hP 0 rfl rfl 2 (by decide) lk22 (fun _ h9 => h9) rfl dX1_takeBack_46 ?_
      refine xq_ld hx hb hK hP 12 (f := fun j => some (hs j)) rfl 13 rfl (by omega) (by decide) (v := hs 13) rfl dX1_takeBack_49 ?_
      obtain ⟨w9, w9a, w9b⟩ := hwR_cutS K hs as Ss (i := 13) (n := 14) (by omega)
      have hP : va_P K.1 vwCl ([(h, .inr (1, [.ref qs, .int (nI (cn - 1)), .int (nI 13)]))] ++ hw K o oa S ++ [(qs, aQ K 14 (fun j => some (hs j)))] ++ hw K (hs 13) (as 13) (Ss 13) ++ w9) H := P_perm (cut_in (p := [(h, .inr (1, [.ref qs, .int (nI (cn - 1)), .int (nI 13)]))] ++ hw K o oa S ++ [(qs, aQ K 14 (fun j => some (hs j)))]) w9a) hP
      have hD : va_D A ([(h, .inr (1, [.ref qs, .int (nI (cn - 1)), .int (nI 13)]))] ++ hw K o oa S ++ [(qs, aQ K 14 (fun j => some (hs j)))] ++ hw K (hs 13) (as 13) (Ss 13) ++ w9) := D_perm (cut_in (p := [(h, .inr (1, [.ref qs, .int (nI (cn - 1)), .int (nI 13)]))] ++ hw K o oa S ++ [(qs, aQ K 14 (fun j => some (hs j)))]) w9a) hD
      have hpm50 : ([(h, .inr (1, [.ref qs, .int (nI (cn - 1)), .int (nI 13)]))] ++ hw K o oa S ++ [(qs, aQ K 14 (fun j => some (hs j)))] ++ hw K (hs 13) (as 13) (Ss 13) ++ w9 : va_W).Perm ((hw K o oa S ++ hw K (hs 13) (as 13) (Ss 13) : va_W) ++ ([(h, .inr (1, [.ref qs, .int (nI (cn - 1)), .int (nI 13)]))] ++ [(qs, aQ K 14 (fun j => some (hs j)))] ++ w9 : va_W)) := perm_split ([[(h, .inr (1, [.ref qs, .int (nI (cn - 1)), .int (nI 13)]))], hw K o oa S, [(qs, aQ K 14 (fun j => some (hs j)))], hw K (hs 13) (as 13) (Ss 13), w9] : List va_W) 5 rfl [1, 3] [0, 2, 4] (by decide)
      have hpn50 : ∀ (_u : Unit), ((hw K o oa (Ss 13) ++ hw K (hs 13) (as 13) (Ss 13) : va_W) ++ ([(h, .inr (1, [.ref qs, .int (nI (cn - 1)), .int (nI 13)]))] ++ [(qs, aQ K 14 (fun j => some (hs j)))] ++ w9 : va_W)).Perm ([(h, .inr (1, [.ref qs, .int (nI (cn - 1)), .int (nI 13)]))] ++ hw K o oa (Ss 13) ++ [(qs, aQ K 14 (fun j => some (hs j)))] ++ hw K (hs 13) (as 13) (Ss 13) ++ w9) := fun _u => (perm_split ([[(h, .inr (1, [.ref qs, .int (nI (cn - 1)), .int (nI 13)]))], hw K o oa (Ss 13), [(qs, aQ K 14 (fun j => some (hs j)))], hw K (hs 13) (as 13) (Ss 13), w9] : List va_W) 5 rfl [1, 3] [0, 2, 4] (by decide)).symm
      refine pw_Vv (As := [.ref (hs 13)]) (rest := []) (wc := hw K o oa S ++ hw K (hs 13) (as 13) (Ss 13)) (wr := [(h, .inr (1, [.ref qs, .int (nI (cn - 1)), .int (nI 13)]))] ++ [(qs, aQ K 14 (fun j => some (hs j)))] ++ w9) ⟨hx, hb, hml, hown, hts⟩ (c_X2_copyFrom l K o oa S (hs 13) (as 13) (Ss 13) (hzS _ (by omega)) H.size) (cwV 1 hts gX1_takeBack_X2_copyFrom rfl rfl rfl (by decide +kernel) ⟨Nat.le_of_ble_eq_true rfl, Nat.le_of_ble_eq_true rfl⟩) hK hP hD hS hA hpm50 (fun _u => [(h, .inr (1, [.ref qs, .int (nI (cn - 1)), .int (nI 13)]))] ++ hw K o oa (Ss 13) ++ [(qs, aQ K 14 (fun j => some (hs j)))] ++ hw K (hs 13) (as 13) (Ss 13) ++ w9) hpn50 0 2 rfl rfl rfl rfl hl.1 rfl (Nat.le_of_ble_eq_true rfl) (Nat.le_of_ble_eq_true rfl) (Nat.le_of_ble_eq_true rfl) dX1_takeBack_50 (fun _ H locs hq50 hP hD hS => ?_)
      have hP : va_P K.1 vwCl ([(h, .inr (1, [.ref qs, .int (nI (cn - 1)), .int (nI 13)]))] ++ hw K o oa (Ss 13) ++ [(qs, aQ K 14 (fun j => some (hs j)))] ++ hw K (hs 13) (as 13) (Ss 13) ++ w9) H := hP
      have hD : va_D A ([(h, .inr (1, [.ref qs, .int (nI (cn - 1)), .int (nI 13)]))] ++ hw K o oa (Ss 13) ++ [(qs, aQ K 14 (fun j => some (hs j)))] ++ hw K (hs 13) (as 13) (Ss 13) ++ w9) := hD
      have hP : va_P K.1 vwCl ([(h, .inr (1, [.ref qs, .int (nI (cn - 1)), .int (nI 13)]))] ++ hw K o oa (Ss 13) ++ [(qs, aQ K 14 (fun j => some (hs j)))] ++ hwR K hs as Ss 14) H := P_perm (join_in (p := [(h, .inr (1, [.ref qs, .int (nI (cn - 1)), .int (nI 13)]))] ++ hw K o oa (Ss 13) ++ [(qs, aQ K 14 (fun j => some (hs j)))]) w9a) hP
      have hD : va_D A ([(h, .inr (1, [.ref qs, .int (nI (cn - 1)), .int (nI 13)]))] ++ hw K o oa (Ss 13) ++ [(qs, aQ K 14 (fun j => some (hs j)))] ++ hwR K hs as Ss 14) := D_perm (join_in (p := [(h, .inr (1, [.ref qs, .int (nI (cn - 1)), .int (nI 13)]))] ++ hw K o oa (Ss 13) ++ [(qs, aQ K 14 (fun j => some (hs j)))]) w9a) hD
      have eW : ([(h, .inr (1, [.ref qs, .int (nI (cn - 1)), .int (nI 13)]))] ++ hw K o oa (Ss 13) ++ [(qs, aQ K 14 (fun j => some (hs j)))] ++ hwR K hs as Ss 14 : va_W) = [(h, .inr (1, [.ref qs, .int (nI (cn - 1)), .int (nI (if 0 < nx then nx - 1 else 13))]))] ++ hw K o oa (Ss (if 0 < nx then nx - 1 else 13)) ++ [(qs, aQ K 14 (fun j => some (hs j)))] ++ hwR K hs as Ss 14 := by (first | rw [if_pos (show 0 < nx by omega)] | rw [if_neg (show ¬ 0 < nx by omega)])
      have hP : va_P K.1 vwCl ([(h, .inr (1, [.ref qs, .int (nI (cn - 1)), .int (nI (if 0 < nx then nx - 1 else 13))]))] ++ hw K o oa (Ss (if 0 < nx then nx - 1 else 13)) ++ [(qs, aQ K 14 (fun j => some (hs j)))] ++ hwR K hs as Ss 14) H := by rw [← eW]; exact hP
      have hD : va_D A ([(h, .inr (1, [.ref qs, .int (nI (cn - 1)), .int (nI (if 0 < nx then nx - 1 else 13))]))] ++ hw K o oa (Ss (if 0 < nx then nx - 1 else 13)) ++ [(qs, aQ K 14 (fun j => some (hs j)))] ++ hwR K hs as Ss 14) := by rw [← eW]; exact hD
      exact hend _ _ _ _ _ _ () hP hD hS (Nat.le_of_ble_eq_true rfl) (Nat.le_of_ble_eq_true rfl) trivial dX1_takeBack_53
    · skip
      refine lv_aload_n hx hb dX1_takeBack_16 rfl (lv_at hl 0 rfl) ?_
      refine va_get (ci := 1) (v := .int (nI nx)) (C := RX1) (T := TX1) (N := 3) hx hb hts hi1 hown hK hP 0 rfl rfl 2 (by decide) lk22 (fun _ h9 => h9) rfl dX1_takeBack_17 ?_
      refine lv_iconst (v := (1 : Int32)) hx hb dX1_takeBack_20 (by decide) ?_
      refine lv_isub hx hb dX1_takeBack_21 ?_
      refine lv_goto (tgt := 27) hx hb dX1_takeBack_22 (by decide) ?_
      rw [show (nI nx) - (1 : Int32) = nI (nx - 1) from (nn_sub rfl rfl (by omega))]
      refine va_put (ci := 1) (v := .int (nI (nx - 1))) (ty := .int) (C := RX1) (T := TX1) (N := 3) hx hb hts hi1 tyX1 tyX1_ok nmX1 hown hK hP hD hS 0 rfl rfl 2 (by decide) lk22 (fun _ h9 => h9) rfl (by decide +kernel) rfl rfl (Nat.le_of_ble_eq_true rfl) dX1_takeBack_27 (fun H locs hP hD hS => ?_)
      have hP : va_P K.1 vwCl ([(h, .inr (1, [.ref qs, .int (nI cn), .int (nI (nx - 1))]))] ++ hw K o oa S ++ [(qs, aQ K 14 (fun j => some (hs j)))] ++ hwR K hs as Ss 14) H := hP
      have hD : va_D A ([(h, .inr (1, [.ref qs, .int (nI cn), .int (nI (nx - 1))]))] ++ hw K o oa S ++ [(qs, aQ K 14 (fun j => some (hs j)))] ++ hwR K hs as Ss 14) := hD
      refine lv_aload_n hx hb dX1_takeBack_30 rfl (lv_at hl 0 rfl) ?_
      refine lv_dup hx hb dX1_takeBack_31 rfl ?_
      refine va_get (ci := 1) (v := .int (nI cn)) (C := RX1) (T := TX1) (N := 3) hx hb hts hi1 hown hK hP 0 rfl rfl 1 (by decide) lk18 (fun _ h9 => h9) rfl dX1_takeBack_32 ?_
      refine lv_iconst (v := (1 : Int32)) hx hb dX1_takeBack_35 (by decide) ?_
      refine lv_isub hx hb dX1_takeBack_36 ?_
      rw [show (nI cn) - (1 : Int32) = nI (cn - 1) from (nn_sub rfl rfl (by omega))]
      refine va_put (ci := 1) (v := .int (nI (cn - 1))) (ty := .int) (C := RX1) (T := TX1) (N := 3) hx hb hts hi1 tyX1 tyX1_ok nmX1 hown hK hP hD hS 0 rfl rfl 1 (by decide) lk18 (fun _ h9 => h9) rfl (by decide +kernel) rfl rfl (Nat.le_of_ble_eq_true rfl) dX1_takeBack_37 (fun H locs hP hD hS => ?_)
      have hP : va_P K.1 vwCl ([(h, .inr (1, [.ref qs, .int (nI (cn - 1)), .int (nI (nx - 1))]))] ++ hw K o oa S ++ [(qs, aQ K 14 (fun j => some (hs j)))] ++ hwR K hs as Ss 14) H := hP
      have hD : va_D A ([(h, .inr (1, [.ref qs, .int (nI (cn - 1)), .int (nI (nx - 1))]))] ++ hw K o oa S ++ [(qs, aQ K 14 (fun j => some (hs j)))] ++ hwR K hs as Ss 14) := hD
      refine lv_aload_n hx hb dX1_takeBack_40 rfl (lv_at hl 1 rfl) ?_
      refine lv_aload_n hx hb dX1_takeBack_41 rfl (lv_at hl 0 rfl) ?_
      refine va_get (ci := 1) (v := .ref qs) (C := RX1) (T := TX1) (N := 3) hx hb hts hi1 hown hK hP 0 rfl rfl 0 (by decide) lk11 (fun _ h9 => h9) rfl dX1_takeBack_42 ?_
      refine lv_aload_n hx hb dX1_takeBack_45 rfl (lv_at hl 0 rfl) ?_
      refine va_get (ci := 1) (v := .int (nI (nx - 1))) (C := RX1) (T := TX1) (N := 3) hx hb hts hi1 hown hK hP 0 rfl rfl 2 (by decide) lk22 (fun _ h9 => h9) rfl dX1_takeBack_46 ?_
      refine xq_ld hx hb hK hP 12 (f := fun j => some (hs j)) rfl (nx - 1) rfl (by omega) (by decide) (v := hs (nx - 1)) rfl dX1_takeBack_49 ?_
      obtain ⟨w9, w9a, w9b⟩ := hwR_cutS K hs as Ss (i := nx - 1) (n := 14) (by omega)
      have hP : va_P K.1 vwCl ([(h, .inr (1, [.ref qs, .int (nI (cn - 1)), .int (nI (nx - 1))]))] ++ hw K o oa S ++ [(qs, aQ K 14 (fun j => some (hs j)))] ++ hw K (hs (nx - 1)) (as (nx - 1)) (Ss (nx - 1)) ++ w9) H := P_perm (cut_in (p := [(h, .inr (1, [.ref qs, .int (nI (cn - 1)), .int (nI (nx - 1))]))] ++ hw K o oa S ++ [(qs, aQ K 14 (fun j => some (hs j)))]) w9a) hP
      have hD : va_D A ([(h, .inr (1, [.ref qs, .int (nI (cn - 1)), .int (nI (nx - 1))]))] ++ hw K o oa S ++ [(qs, aQ K 14 (fun j => some (hs j)))] ++ hw K (hs (nx - 1)) (as (nx - 1)) (Ss (nx - 1)) ++ w9) := D_perm (cut_in (p := [(h, .inr (1, [.ref qs, .int (nI (cn - 1)), .int (nI (nx - 1))]))] ++ hw K o oa S ++ [(qs, aQ K 14 (fun j => some (hs j)))]) w9a) hD
      have hpm50 : ([(h, .inr (1, [.ref qs, .int (nI (cn - 1)), .int (nI (nx - 1))]))] ++ hw K o oa S ++ [(qs, aQ K 14 (fun j => some (hs j)))] ++ hw K (hs (nx - 1)) (as (nx - 1)) (Ss (nx - 1)) ++ w9 : va_W).Perm ((hw K o oa S ++ hw K (hs (nx - 1)) (as (nx - 1)) (Ss (nx - 1)) : va_W) ++ ([(h, .inr (1, [.ref qs, .int (nI (cn - 1)), .int (nI (nx - 1))]))] ++ [(qs, aQ K 14 (fun j => some (hs j)))] ++ w9 : va_W)) := perm_split ([[(h, .inr (1, [.ref qs, .int (nI (cn - 1)), .int (nI (nx - 1))]))], hw K o oa S, [(qs, aQ K 14 (fun j => some (hs j)))], hw K (hs (nx - 1)) (as (nx - 1)) (Ss (nx - 1)), w9] : List va_W) 5 rfl [1, 3] [0, 2, 4] (by decide)
      have hpn50 : ∀ (_u : Unit), ((hw K o oa (Ss (nx - 1)) ++ hw K (hs (nx - 1)) (as (nx - 1)) (Ss (nx - 1)) : va_W) ++ ([(h, .inr (1, [.ref qs, .int (nI (cn - 1)), .int (nI (nx - 1))]))] ++ [(qs, aQ K 14 (fun j => some (hs j)))] ++ w9 : va_W)).Perm ([(h, .inr (1, [.ref qs, .int (nI (cn - 1)), .int (nI (nx - 1))]))] ++ hw K o oa (Ss (nx - 1)) ++ [(qs, aQ K 14 (fun j => some (hs j)))] ++ hw K (hs (nx - 1)) (as (nx - 1)) (Ss (nx - 1)) ++ w9) := fun _u => (perm_split ([[(h, .inr (1, [.ref qs, .int (nI (cn - 1)), .int (nI (nx - 1))]))], hw K o oa (Ss (nx - 1)), [(qs, aQ K 14 (fun j => some (hs j)))], hw K (hs (nx - 1)) (as (nx - 1)) (Ss (nx - 1)), w9] : List va_W) 5 rfl [1, 3] [0, 2, 4] (by decide)).symm
      refine pw_Vv (As := [.ref (hs (nx - 1))]) (rest := []) (wc := hw K o oa S ++ hw K (hs (nx - 1)) (as (nx - 1)) (Ss (nx - 1))) (wr := [(h, .inr (1, [.ref qs, .int (nI (cn - 1)), .int (nI (nx - 1))]))] ++ [(qs, aQ K 14 (fun j => some (hs j)))] ++ w9) ⟨hx, hb, hml, hown, hts⟩ (c_X2_copyFrom l K o oa S (hs (nx - 1)) (as (nx - 1)) (Ss (nx - 1)) (hzS _ (by omega)) H.size) (cwV 1 hts gX1_takeBack_X2_copyFrom rfl rfl rfl (by decide +kernel) ⟨Nat.le_of_ble_eq_true rfl, Nat.le_of_ble_eq_true rfl⟩) hK hP hD hS hA hpm50 (fun _u => [(h, .inr (1, [.ref qs, .int (nI (cn - 1)), .int (nI (nx - 1))]))] ++ hw K o oa (Ss (nx - 1)) ++ [(qs, aQ K 14 (fun j => some (hs j)))] ++ hw K (hs (nx - 1)) (as (nx - 1)) (Ss (nx - 1)) ++ w9) hpn50 0 2 rfl rfl rfl rfl hl.1 rfl (Nat.le_of_ble_eq_true rfl) (Nat.le_of_ble_eq_true rfl) (Nat.le_of_ble_eq_true rfl) dX1_takeBack_50 (fun _ H locs hq50 hP hD hS => ?_)
      have hP : va_P K.1 vwCl ([(h, .inr (1, [.ref qs, .int (nI (cn - 1)), .int (nI (nx - 1))]))] ++ hw K o oa (Ss (nx - 1)) ++ [(qs, aQ K 14 (fun j => some (hs j)))] ++ hw K (hs (nx - 1)) (as (nx - 1)) (Ss (nx - 1)) ++ w9) H := hP
      have hD : va_D A ([(h, .inr (1, [.ref qs, .int (nI (cn - 1)), .int (nI (nx - 1))]))] ++ hw K o oa (Ss (nx - 1)) ++ [(qs, aQ K 14 (fun j => some (hs j)))] ++ hw K (hs (nx - 1)) (as (nx - 1)) (Ss (nx - 1)) ++ w9) := hD
      have hP : va_P K.1 vwCl ([(h, .inr (1, [.ref qs, .int (nI (cn - 1)), .int (nI (nx - 1))]))] ++ hw K o oa (Ss (nx - 1)) ++ [(qs, aQ K 14 (fun j => some (hs j)))] ++ hwR K hs as Ss 14) H := P_perm (join_in (p := [(h, .inr (1, [.ref qs, .int (nI (cn - 1)), .int (nI (nx - 1))]))] ++ hw K o oa (Ss (nx - 1)) ++ [(qs, aQ K 14 (fun j => some (hs j)))]) w9a) hP
      have hD : va_D A ([(h, .inr (1, [.ref qs, .int (nI (cn - 1)), .int (nI (nx - 1))]))] ++ hw K o oa (Ss (nx - 1)) ++ [(qs, aQ K 14 (fun j => some (hs j)))] ++ hwR K hs as Ss 14) := D_perm (join_in (p := [(h, .inr (1, [.ref qs, .int (nI (cn - 1)), .int (nI (nx - 1))]))] ++ hw K o oa (Ss (nx - 1)) ++ [(qs, aQ K 14 (fun j => some (hs j)))]) w9a) hD
      have eW : ([(h, .inr (1, [.ref qs, .int (nI (cn - 1)), .int (nI (nx - 1))]))] ++ hw K o oa (Ss (nx - 1)) ++ [(qs, aQ K 14 (fun j => some (hs j)))] ++ hwR K hs as Ss 14 : va_W) = [(h, .inr (1, [.ref qs, .int (nI (cn - 1)), .int (nI (if 0 < nx then nx - 1 else 13))]))] ++ hw K o oa (Ss (if 0 < nx then nx - 1 else 13)) ++ [(qs, aQ K 14 (fun j => some (hs j)))] ++ hwR K hs as Ss 14 := by (first | rw [if_pos (show 0 < nx by omega)] | rw [if_neg (show ¬ 0 < nx by omega)])
      have hP : va_P K.1 vwCl ([(h, .inr (1, [.ref qs, .int (nI (cn - 1)), .int (nI (if 0 < nx then nx - 1 else 13))]))] ++ hw K o oa (Ss (if 0 < nx then nx - 1 else 13)) ++ [(qs, aQ K 14 (fun j => some (hs j)))] ++ hwR K hs as Ss 14) H := by rw [← eW]; exact hP
      have hD : va_D A ([(h, .inr (1, [.ref qs, .int (nI (cn - 1)), .int (nI (if 0 < nx then nx - 1 else 13))]))] ++ hw K o oa (Ss (if 0 < nx then nx - 1 else 13)) ++ [(qs, aQ K 14 (fun j => some (hs j)))] ++ hwR K hs as Ss 14) := by rw [← eW]; exact hD
      exact hend _ _ _ _ _ _ () hP hD hS (Nat.le_of_ble_eq_true rfl) (Nat.le_of_ble_eq_true rfl) trivial dX1_takeBack_53
  · omega

abbrev rm_X1_init : Room := { frames := 3, cells := 155, slots := 2814, locals := 63 }
set_option maxHeartbeats 4000000 in
set_option maxRecDepth 100000 in
theorem c_X1_init (l : Launch) (K : KX) (h : Nat) (sz : Nat) : Met l yX1_init wsX1_init rm_X1_init (va_Pc [.ref h] (xPreS K ([(h, .inr (1, [.null, .int (0 : Int32), .int (0 : Int32)]))]) sz)) (va_Qv (fun u9 : Nat × (Nat → Nat) × (Nat → Nat → Nat) => True) (fun u9 t => xPost K (va_A ([(h, .inr (1, [.null, .int (0 : Int32), .int (0 : Int32)]))]) sz) ([(h, .inr (1, [.ref u9.1, .int (nI 0), .int (nI 0)]))] ++ [(u9.1, aQ K 14 (fun j => some (u9.2.1 j)))] ++ hwR K u9.2.1 u9.2.2 (fun _ => hEmp) 14) t) (va_A ([(h, .inr (1, [.null, .int (0 : Int32), .int (0 : Int32)]))]) sz)) 155 2814 (va_A ([(h, .inr (1, [.null, .int (0 : Int32), .int (0 : Int32)]))]) sz) := by
  refine xs_startv (cc := cX1_init) (maxL := 2) (by decide) rfl (Nat.le_of_ble_eq_true rfl) ?_
  intro p9 e9 s9 m9 below9 meth9 c9 H locs ls A av9 Q9 hx hb hlocks hml hname hts hown hK hP hD hS hA hsz hZ hend hl
  have hown : s9.vm.findClass RX1 = some m9.cls := hown
  have hl : lv_has ls 2 [(0, .ref h)] := hl
  have hi1 : ∀ w ∈ u_ws RX1 TX1 3, w ∈ wsX1_init := by decide +kernel
  have hi2 : ∀ w ∈ u_ws RX2 TX2 17, w ∈ wsX1_init := by decide +kernel
  have lk11 := hts (.fieldLink RX1 11 "StandIns$History" "states" "[LStandIns$House;") (by decide +kernel)
  refine lv_aload_n hx hb dX1_init_0 rfl (lv_at hl 0 rfl) ?_
  refine W.objInit hx hb hown (hts (.methodLink RX1 3 objectInit) (by decide +kernel)) (hts (.instanceMethod objectInit) (by decide +kernel)) (hts (.code objectInit ⟨#[0xb1]⟩ 1 none) (by decide +kernel)) rfl (by rw [hml]; exact hl.1) rfl dX1_init_1 (Nat.le_of_ble_eq_true rfl) (Nat.le_of_ble_eq_true rfl) ?_
  refine W.eq (g2 := F0 m9 4 ls []) rfl ?_
  refine lv_aload_n hx hb dX1_init_4 rfl (lv_at hl 0 rfl) ?_
  refine lv_bipush (v := (14 : Int32)) hx hb dX1_init_5 (by decide) ?_
  refine xq_new hx hb hown (hts (.classLink RX1 9 RX2) (by decide +kernel)) (hZ.2.2.2.2.2.2.2.2.2.2.2.2) hK hP hD hS hA 14 rfl (by decide) (Nat.le_of_ble_eq_true rfl) (Nat.le_of_ble_eq_true rfl) dX1_init_7 (fun q7 H hP hD hS => ?_)
  have hP : va_P K.1 vwCl ([(h, .inr (1, [.null, .int (0 : Int32), .int (0 : Int32)]))] ++ [(q7, aQ K 14 (fun _ => none))]) H := hP
  have hD : va_D A ([(h, .inr (1, [.null, .int (0 : Int32), .int (0 : Int32)]))] ++ [(q7, aQ K 14 (fun _ => none))]) := hD
  refine va_putF (ci := 1) (v := .ref q7) (ty := (tyX1 0)) (C := RX1) (T := TX1) (N := 3) hx hb hts hi1 tyX1 tyX1_ok nmX1 hown hK hP hD hS 0 rfl rfl 0 (by decide) lk11 (fun _ h9 => h9) rfl hname rfl (by decide +kernel) rfl rfl (Nat.le_of_ble_eq_true rfl) dX1_init_10 (fun H locs hP hD hS => ?_)
  have hP : va_P K.1 vwCl ([(h, .inr (1, [.ref q7, .int (0 : Int32), .int (0 : Int32)]))] ++ [(q7, aQ K 14 (fun _ => none))]) H := hP
  have hD : va_D A ([(h, .inr (1, [.ref q7, .int (0 : Int32), .int (0 : Int32)]))] ++ [(q7, aQ K 14 (fun _ => none))]) := hD
  have hP : va_P K.1 vwCl ([(h, .inr (1, [.ref q7, .int (0 : Int32), .int (0 : Int32)]))] ++ [(q7, aQ K 14 (fun _ => none))] ++ hwR K (fun _ => 0) (fun _ _ => 0) (fun _ => hEmp) 0) H := (List.append_nil _).symm ▸ hP
  have hD : va_D A ([(h, .inr (1, [.ref q7, .int (0 : Int32), .int (0 : Int32)]))] ++ [(q7, aQ K 14 (fun _ => none))] ++ hwR K (fun _ => 0) (fun _ _ => 0) (fun _ => hEmp) 0) := (List.append_nil _).symm ▸ hD
  refine lv_iconst (v := (0 : Int32)) hx hb dX1_init_13 (by decide) ?_
  refine lv_istore_n (lv' := [(1, .int (0 : Int32)), (0, .ref h)]) hx hb dX1_init_14 rfl hl (by decide) rfl (fun ls hl => ?_)
  have lp15 : ∀ (n9 : Nat) (k : Nat) (hs : Nat → Nat) (as : Nat → Nat → Nat) (f : Nat → Option Nat) (H : Heap) (locs : List Loc) (ls : Array Slot), 14 - k < n9 → (k ≤ 14) → (∀ j, f j = if j < k then some (hs j) else none) → va_P K.1 vwCl ([(h, .inr (1, [.ref q7, .int (0 : Int32), .int (0 : Int32)]))] ++ [(q7, aQ K 14 f)] ++ hwR K hs as (fun _ => hEmp) k) H → va_D A ([(h, .inr (1, [.ref q7, .int (0 : Int32), .int (0 : Int32)]))] ++ [(q7, aQ K 14 f)] ++ hwR K hs as (fun _ => hEmp) k) → va_S A s9.heap H locs → lv_has ls 2 [(0, .ref h), (1, .int (nI k))] → W p9 l e9 rm_X1_init s9 m9 av9 below9 meth9 c9 H locs (1 + 11 * k) (14 + 200 * k) Q9 (F0 m9 15 ls []) := by
    intro n9
    induction n9 with
    | zero => intro k hs as f H locs ls hmu hk hf hP hD hS hl; exact absurd hmu (Nat.not_lt_zero _)
    | succ n9 ih15 =>
      intro k hs as f H locs ls hmu hk hf hP hD hS hl
      refine lv_iload_n hx hb dX1_init_15 rfl (lv_at hl 1 rfl) ?_
      refine lv_bipush (v := (14 : Int32)) hx hb dX1_init_16 (by decide) ?_
      refine xn_icmp_ge (tgt := 40) hx hb k 14 rfl rfl (by omega) (by decide) dX1_init_18 (by decide) (fun c_18 => ?_) (fun c_18 => ?_)
      · skip
        have hk14 : k = 14 := by omega
        subst hk14
        have hP := P_extQ hP 1 (f := f) (g := fun j => some (hs j)) rfl (by intro j hj; rw [hf j, if_pos hj])
        have hD := hD.set (p := 1) (a := q7) (e0 := aQ K 14 f) (e := aQ K 14 (fun j => some (hs j))) rfl
        have hP : va_P K.1 vwCl ([(h, .inr (1, [.ref q7, .int (0 : Int32), .int (0 : Int32)]))] ++ [(q7, aQ K 14 (fun j => some (hs j)))] ++ hwR K hs as (fun _ => hEmp) 14) H := hP
        have hD : va_D A ([(h, .inr (1, [.ref q7, .int (0 : Int32), .int (0 : Int32)]))] ++ [(q7, aQ K 14 (fun j => some (hs j)))] ++ hwR K hs as (fun _ => hEmp) 14) := hD
        exact hend _ _ _ _ _ _ (q7, hs, as) hP hD hS (by show (1 + 11 * 14) + 0 ≤ 155; omega) (by show (14 + 200 * 14) + 0 ≤ 2814; omega) trivial dX1_init_40
      · skip
        refine lv_aload_n hx hb dX1_init_21 rfl (lv_at hl 0 rfl) ?_
        refine va_get (ci := 1) (v := .ref q7) (C := RX1) (T := TX1) (N := 3) hx hb hts hi1 hown hK hP 0 rfl rfl 0 (by decide) lk11 (fun _ h9 => h9) rfl dX1_init_22 ?_
        refine lv_iload_n hx hb dX1_init_25 rfl (lv_at hl 1 rfl) ?_
        refine va_new (ci := 2) (fs := [.null, .null, .null, .null, .null, .null, .null, .null, .null, .null, .int (0 : Int32), .int (0 : Int32), .int (0 : Int32), .int (0 : Int32), .int (0 : Int32), .int (0 : Int32), .int (0 : Int32)]) (C := RX2) (T := TX2) (N := 17) hx hb hts hi2 tyX2 tyX2_ok hown (hts (.classLink RX1 9 RX2) (by decide +kernel)) (hts (.instantiable RX2 17) (by decide +kernel)) (hts (.initialized RX2) (by decide +kernel)) hK hP hD hS hA rfl (fun j hj => by rcases (show j = 0 ∨ j = 1 ∨ j = 2 ∨ j = 3 ∨ j = 4 ∨ j = 5 ∨ j = 6 ∨ j = 7 ∨ j = 8 ∨ j = 9 ∨ j = 10 ∨ j = 11 ∨ j = 12 ∨ j = 13 ∨ j = 14 ∨ j = 15 ∨ j = 16 by omega) with rfl | rfl | rfl | rfl | rfl | rfl | rfl | rfl | rfl | rfl | rfl | rfl | rfl | rfl | rfl | rfl | rfl <;> rfl) (by show (1 + 11 * k) + 1 ≤ 155; omega) (by show (14 + 200 * k) + 17 ≤ 2814; omega) dX1_init_26 (fun q26 H hP hD hS => ?_)
        have hP := P_perm (rot3 ([(h, .inr (1, [.ref q7, .int (0 : Int32), .int (0 : Int32)]))] ++ [(q7, aQ K 14 f)]) (hwR K hs as (fun _ => hEmp) k) ([(q26, .inr (2, [.null, .null, .null, .null, .null, .null, .null, .null, .null, .null, .int (0 : Int32), .int (0 : Int32), .int (0 : Int32), .int (0 : Int32), .int (0 : Int32), .int (0 : Int32), .int (0 : Int32)]))])) hP
        have hD := D_perm (rot3 ([(h, .inr (1, [.ref q7, .int (0 : Int32), .int (0 : Int32)]))] ++ [(q7, aQ K 14 f)]) (hwR K hs as (fun _ => hEmp) k) ([(q26, .inr (2, [.null, .null, .null, .null, .null, .null, .null, .null, .null, .null, .int (0 : Int32), .int (0 : Int32), .int (0 : Int32), .int (0 : Int32), .int (0 : Int32), .int (0 : Int32), .int (0 : Int32)]))])) hD
        have hP : va_P K.1 vwCl ([(h, .inr (1, [.ref q7, .int (0 : Int32), .int (0 : Int32)]))] ++ [(q7, aQ K 14 f)] ++ [(q26, .inr (2, [.null, .null, .null, .null, .null, .null, .null, .null, .null, .null, .int (0 : Int32), .int (0 : Int32), .int (0 : Int32), .int (0 : Int32), .int (0 : Int32), .int (0 : Int32), .int (0 : Int32)]))] ++ hwR K hs as (fun _ => hEmp) k) H := hP
        have hD : va_D A ([(h, .inr (1, [.ref q7, .int (0 : Int32), .int (0 : Int32)]))] ++ [(q7, aQ K 14 f)] ++ [(q26, .inr (2, [.null, .null, .null, .null, .null, .null, .null, .null, .null, .null, .int (0 : Int32), .int (0 : Int32), .int (0 : Int32), .int (0 : Int32), .int (0 : Int32), .int (0 : Int32), .int (0 : Int32)]))] ++ hwR K hs as (fun _ => hEmp) k) := hD
        refine lv_dup hx hb dX1_init_29 rfl ?_
        have hpm30 : ([(h, .inr (1, [.ref q7, .int (0 : Int32), .int (0 : Int32)]))] ++ [(q7, aQ K 14 f)] ++ [(q26, .inr (2, [.null, .null, .null, .null, .null, .null, .null, .null, .null, .null, .int (0 : Int32), .int (0 : Int32), .int (0 : Int32), .int (0 : Int32), .int (0 : Int32), .int (0 : Int32), .int (0 : Int32)]))] ++ hwR K hs as (fun _ => hEmp) k : va_W).Perm (([(q26, .inr (2, [.null, .null, .null, .null, .null, .null, .null, .null, .null, .null, .int (0 : Int32), .int (0 : Int32), .int (0 : Int32), .int (0 : Int32), .int (0 : Int32), .int (0 : Int32), .int (0 : Int32)]))] : va_W) ++ ([(h, .inr (1, [.ref q7, .int (0 : Int32), .int (0 : Int32)]))] ++ [(q7, aQ K 14 f)] ++ hwR K hs as (fun _ => hEmp) k : va_W)) := perm_split ([[(h, .inr (1, [.ref q7, .int (0 : Int32), .int (0 : Int32)]))], [(q7, aQ K 14 f)], [(q26, .inr (2, [.null, .null, .null, .null, .null, .null, .null, .null, .null, .null, .int (0 : Int32), .int (0 : Int32), .int (0 : Int32), .int (0 : Int32), .int (0 : Int32), .int (0 : Int32), .int (0 : Int32)]))], hwR K hs as (fun _ => hEmp) k] : List va_W) 4 rfl [2] [0, 1, 3] (by decide)
        have hpn30 : ∀ (u9_30 : Nat → Nat), ((hw K q26 u9_30 hEmp : va_W) ++ ([(h, .inr (1, [.ref q7, .int (0 : Int32), .int (0 : Int32)]))] ++ [(q7, aQ K 14 f)] ++ hwR K hs as (fun _ => hEmp) k : va_W)).Perm ([(h, .inr (1, [.ref q7, .int (0 : Int32), .int (0 : Int32)]))] ++ [(q7, aQ K 14 f)] ++ hw K q26 u9_30 hEmp ++ hwR K hs as (fun _ => hEmp) k) := fun u9_30 => (perm_split ([[(h, .inr (1, [.ref q7, .int (0 : Int32), .int (0 : Int32)]))], [(q7, aQ K 14 f)], hw K q26 u9_30 hEmp, hwR K hs as (fun _ => hEmp) k] : List va_W) 4 rfl [2] [0, 1, 3] (by decide)).symm
        refine ps_I (As := []) (rest := [.ref q26, .int (nI k), .ref q7]) (wc := [(q26, .inr (2, [.null, .null, .null, .null, .null, .null, .null, .null, .null, .null, .int (0 : Int32), .int (0 : Int32), .int (0 : Int32), .int (0 : Int32), .int (0 : Int32), .int (0 : Int32), .int (0 : Int32)]))]) (wr := [(h, .inr (1, [.ref q7, .int (0 : Int32), .int (0 : Int32)]))] ++ [(q7, aQ K 14 f)] ++ hwR K hs as (fun _ => hEmp) k) ⟨hx, hb, hml, hown, hts⟩ (c_X2_init l K q26 H.size) (cwI 0 hts gX1_init_X2_init rfl rfl rfl (hts (.initialized RX2) (by decide +kernel)) (hts (.methodLink RX1 17 yX2_init) (by decide +kernel)) (hts (.instanceMethod yX2_init) (by decide +kernel)) rfl (by decide +kernel) ⟨Nat.le_of_ble_eq_true rfl, Nat.le_of_ble_eq_true rfl⟩) hK hP hD hS hZ hA hpm30 (fun u9_30 => [(h, .inr (1, [.ref q7, .int (0 : Int32), .int (0 : Int32)]))] ++ [(q7, aQ K 14 f)] ++ hw K q26 u9_30 hEmp ++ hwR K hs as (fun _ => hEmp) k) hpn30 rfl hl.1 rfl (Nat.le_of_ble_eq_true rfl) (by show ((1 + 11 * k) + 1) + 10 ≤ 155; omega) (by show ((14 + 200 * k) + 17) + 183 ≤ 2814; omega) dX1_init_30 (fun u9_30 H locs hq30 hP hD hS => ?_)
        have hP : va_P K.1 vwCl ([(h, .inr (1, [.ref q7, .int (0 : Int32), .int (0 : Int32)]))] ++ [(q7, aQ K 14 f)] ++ hw K q26 u9_30 hEmp ++ hwR K hs as (fun _ => hEmp) k) H := hP
        have hD : va_D A ([(h, .inr (1, [.ref q7, .int (0 : Int32), .int (0 : Int32)]))] ++ [(q7, aQ K 14 f)] ++ hw K q26 u9_30 hEmp ++ hwR K hs as (fun _ => hEmp) k) := hD
        refine xq_st hx hb hK hP hD hS 1 2 (f := f) rfl rfl k rfl (by omega) (by decide) ([(h, .inr (1, [.ref q7, .int (0 : Int32), .int (0 : Int32)]))] ++ [(q7, aQ K 14 (va_up f k (some q26)))] ++ hw K q26 u9_30 hEmp ++ hwR K hs as (fun _ => hEmp) k) rfl dX1_init_33 (fun H locs hP hD hS => ?_)
        have eHW : ∀ z : va_W, z ++ hw K q26 u9_30 hEmp ++ hwR K hs as (fun _ => hEmp) k = z ++ hwR K (va_up hs k q26) (va_up as k u9_30) (fun _ => hEmp) (k + 1) := fun z => by rw [List.append_assoc, hist_w]
        have hP : va_P K.1 vwCl ([(h, .inr (1, [.ref q7, .int (0 : Int32), .int (0 : Int32)]))] ++ [(q7, aQ K 14 (va_up f k (some q26)))] ++ hwR K (va_up hs k q26) (va_up as k u9_30) (fun _ => hEmp) (k + 1)) H := by rw [← eHW]; exact hP
        have hD : va_D A ([(h, .inr (1, [.ref q7, .int (0 : Int32), .int (0 : Int32)]))] ++ [(q7, aQ K 14 (va_up f k (some q26)))] ++ hwR K (va_up hs k q26) (va_up as k u9_30) (fun _ => hEmp) (k + 1)) := by rw [← eHW]; exact hD
        refine lv_iinc (v := nI (k + 1)) (lv' := [(1, .int (nI (k + 1))), (0, .ref h)]) hx hb dX1_init_34 hl (k := 1) rfl (nI_1 _) (by decide) rfl (fun ls hl => ?_)
        refine lv_goto (tgt := 15) hx hb dX1_init_37 (by decide) ?_
        exact ih15 (k + 1) (va_up hs k q26) (va_up as k u9_30) (va_up f k (some q26)) _ _ _ (by omega) (by first | omega | assumption | first | rfl | (simp [c_18]; done) | omega) (by exact hist_f hf) hP hD hS (lv_cons (lv_at hl 1 rfl) (lv_cons (lv_at hl 0 rfl) (lv_nil hl)))
  exact lp15 _ 0 (fun _ => 0) (fun _ _ => 0) (fun _ => none) _ _ _ (Nat.lt_succ_self _) (by first | omega | assumption | first | rfl | (simp; done) | omega) (by intro j; rfl) hP hD hS (lv_cons (lv_at hl 1 rfl) (lv_cons (lv_is (lv_at hl 0 rfl) (show (0 : Int32) = nI 0 by first | rfl | (simp; done) | omega)) (lv_nil hl)))

theorem sim_k1 {P R k m : Nat} (hk : k ≤ m) (hz : k = 0 ∨ (0 < P ∧ 0 < R)) (h : m ≤ k) : k = if 0 < P ∧ 0 < R then m else 0 := by
  split
  · omega
  · rename_i c
    rcases hz with z | z
    · exact z
    · exact absurd z c
theorem sim_k2 {P R k m : Nat} (hz : k = 0 ∨ (0 < P ∧ 0 < R)) (h : ¬ (0 < P ∧ 0 < R)) : k = if 0 < P ∧ 0 < R then m else 0 := by
  rw [if_neg h]
  rcases hz with z | z
  · exact z
  · exact absurd z h
abbrev rm_X6_simulate : Room := { frames := 6, cells := 0, slots := 0, locals := 145 }
set_option maxHeartbeats 4000000 in
set_option maxRecDepth 100000 in
theorem c_X6_simulate (l : Launch) (K : KX) (h : Nat) (a : Nat → Nat) (M : HV) (x9 : Int64) (m : Int32) (R : Nat) (hR0 : M 0 3 = nI R) (hR0b : R ≤ 6) (P : Nat) (hP0 : M 0 4 = nI P) (hP0b : P ≤ 10) (hmo : 0 < P ∧ 0 < R → ∀ k, k < cN m → mOK (mmS (M 0) R P x9 k) R P) (sz : Nat) : Met l yX6_simulate wsX6_simulate rm_X6_simulate (va_Pc [.ref h, .long x9, .int m] (xPre K (mw K h a M) sz)) (va_Qi (fun (r9 : Int32) (u9 : (Nat → Int32) × (Nat → Int32) × (Nat → Int32)) => kSim m = 0 → r9 = smM (M 0) R P x9 (cN m)) (fun u9 t => xPost K (va_A (mw K h a M) sz) (mw K h a (hput (hrow (hrow (hrow M 1 u9.1) 9 u9.2.1) 10 u9.2.2) 8 (nI (kSim m)))) t) (va_A (mw K h a M) sz)) 0 0 (va_A (mw K h a M) sz) := by
  refine xw_starti (cc := cX6_simulate) (maxL := 7) (by decide) rfl (Nat.le_of_ble_eq_true rfl) ?_
  intro p9 e9 s9 m9 below9 meth9 c9 H locs ls A av9 Q9 hx hb hlocks hml hname hts hown hK hP hD hS hA hsz hend hl
  have hown : s9.vm.findClass RX6 = some m9.cls := hown
  have hl : lv_has ls 7 [(0, .ref h), (1, .long x9), (3, .int m)] := hl
  have hi6 : ∀ w ∈ u_ws RX6 TX6 14, w ∈ wsX6_simulate := by decide +kernel
  have lk42 := hts (.fieldLink RX6 42 "StandInsModel" "thrown" "I") (by decide +kernel)
  have lk13 := hts (.fieldLink RX6 13 "StandInsModel" "trial" "[I") (by decide +kernel)
  have lk7 := hts (.fieldLink RX6 7 "StandInsModel" "now" "[I") (by decide +kernel)
  refine lv_aload_n hx hb dX6_simulate_0 rfl (lv_at hl 0 rfl) ?_
  refine lv_iconst (v := (0 : Int32)) hx hb dX6_simulate_1 (by decide) ?_
  refine va_put (ci := 6) (v := .int (0 : Int32)) (ty := .int) (C := RX6) (T := TX6) (N := 14) hx hb hts hi6 tyX6 tyX6_ok nmX6 hown hK hP hD hS 0 rfl rfl 8 (by decide) lk42 (fun _ h9 => h9) rfl (by decide +kernel) rfl rfl (Nat.le_of_ble_eq_true rfl) dX6_simulate_2 (fun H locs hP hD hS => ?_)
  have hP : va_P K.1 vwCl (mw K h a (hput M 8 (0 : Int32))) H := hP
  have hD : va_D A (mw K h a (hput M 8 (0 : Int32))) := hD
  refine lv_iload_n hx hb dX6_simulate_5 rfl (lv_at hl 2 rfl) ?_
  refine lv_iconst (v := (1 : Int32)) hx hb dX6_simulate_6 (by decide) ?_
  refine lv_bipush (v := (40 : Int32)) hx hb dX6_simulate_7 (by decide) ?_
  have hPc := P_sub (ws' := []) hP [] rfl
  refine xr_S (As := [.int m, .int (1 : Int32), .int (40 : Int32)]) (rest := []) ⟨hx, hb, hml, hown, hts⟩ (c_X6_in l K m (1 : Int32) (40 : Int32)) (va_cwS 3 hts gX6_simulate_X6_in rfl rfl rfl (by decide +kernel) ⟨Nat.le_of_ble_eq_true rfl, Nat.le_of_ble_eq_true rfl⟩) hK hPc rfl hl.1 rfl (Nat.le_of_ble_eq_true rfl) (Nat.le_of_ble_eq_true rfl) (Nat.le_of_ble_eq_true rfl) dX6_simulate_9 ?_
  refine xb_if_ne (tgt := 21) hx hb dX6_simulate_12 (by decide) (fun c_12 => ?_) (fun c_12 => ?_)
  · skip
    have hn1 := rng_cN (lo := 1) (hi := 40) c_12 (by decide)
    refine lv_aload_n hx hb dX6_simulate_21 rfl (lv_at hl 0 rfl) ?_
    refine xw_Vv (As := []) (rest := []) (wc := mw K h a (hput M 8 (0 : Int32))) (wr := (List.filterMap (fun i => (mw K h a (hput M 8 (0 : Int32)) : va_W)[i]?) ([] : List Nat))) ⟨hx, hb, hml, hown, hts⟩ (c_X6_tries l K h a (hput M 8 (0 : Int32)) H.size) (cwV 0 hts gX6_simulate_X6_tries rfl rfl rfl (by decide +kernel) ⟨Nat.le_of_ble_eq_true rfl, Nat.le_of_ble_eq_true rfl⟩) hK hP hD hS hA [0, 1, 2, 3, 4, 5, 6, 7, 8, 9] [] [0, 1, 2, 3, 4, 5, 6, 7, 8, 9] rfl rfl rfl (fun _u => mw K h a (hput (hrow M 1 (M 0)) 8 (0 : Int32))) (fun _ => rfl) 0 6 rfl rfl rfl rfl hl.1 rfl (Nat.le_of_ble_eq_true rfl) (Nat.le_of_ble_eq_true rfl) (Nat.le_of_ble_eq_true rfl) dX6_simulate_22 (fun _ H locs hq22 hP hD hS => ?_)
    have hP : va_P K.1 vwCl (mw K h a (hput (hrow M 1 (M 0)) 8 (0 : Int32))) H := hP
    have hD : va_D A (mw K h a (hput (hrow M 1 (M 0)) 8 (0 : Int32))) := hD
    refine lv_lload_n hx hb dX6_simulate_25 rfl (lv_at hl 1 rfl) ?_
    refine lv_lstore (lv' := [(4, .long x9), (0, .ref h), (1, .long x9), (3, .int m)]) hx hb dX6_simulate_26 hl (by decide) rfl (fun ls hl => ?_)
    refine lv_iconst (v := (0 : Int32)) hx hb dX6_simulate_28 (by decide) ?_
    refine lv_istore (lv' := [(6, .int (0 : Int32)), (4, .long x9), (0, .ref h), (1, .long x9), (3, .int m)]) hx hb dX6_simulate_29 hl (by decide) rfl (fun ls hl => ?_)
    have lp31 : ∀ (n9 : Nat) (k : Nat) (E : Nat → Int32) (F : Nat → Int32) (H : Heap) (locs : List Loc) (ls : Array Slot), cN m - k < n9 → (k ≤ cN m) → (k = 0 ∨ (0 < P ∧ 0 < R)) → va_P K.1 vwCl (mw K h a (hrow (hrow (hput (hrow M 1 (mmS (M 0) R P x9 k)) 8 (0 : Int32)) 9 E) 10 F)) H → va_D A (mw K h a (hrow (hrow (hput (hrow M 1 (mmS (M 0) R P x9 k)) 8 (0 : Int32)) 9 E) 10 F)) → va_S A s9.heap H locs → lv_has ls 7 [(0, .ref h), (1, .long x9), (3, .int m), (4, .long (smX x9 k)), (6, .int (nI k))] → W p9 l e9 rm_X6_simulate s9 m9 av9 below9 meth9 c9 H locs 0 0 Q9 (F0 m9 31 ls []) := by
      intro n9
      induction n9 with
      | zero => intro k E F H locs ls hmu hk hz hP hD hS hl; exact absurd hmu (Nat.not_lt_zero _)
      | succ n9 ih31 =>
        intro k E F H locs ls hmu hk hz hP hD hS hl
        refine lv_iload hx hb dX6_simulate_31 (lv_at hl 4 rfl) ?_
        refine lv_iload_n hx hb dX6_simulate_33 rfl (lv_at hl 2 rfl) ?_
        refine xn_icmp_ge (tgt := 83) hx hb k (cN m) rfl hn1.1 (by omega) (by omega) dX6_simulate_34 (by decide) (fun c_34 => ?_) (fun c_34 => ?_)
        · skip
          have hk9 : (if 0 < P ∧ 0 < R then cN m else 0) = k := (show k = (if 0 < P ∧ 0 < R then cN m else 0) from sim_k1 hk hz c_34).symm
          subst hk9
          refine lv_sipush (v := (1000 : Int32)) hx hb dX6_simulate_83 (by decide) ?_
          refine lv_aload_n hx hb dX6_simulate_86 rfl (lv_at hl 0 rfl) ?_
          refine va_get (ci := 6) (v := .ref (a 1)) (C := RX6) (T := TX6) (N := 14) hx hb hts hi6 hown hK hP 0 rfl rfl 1 (by decide) lk13 (fun _ h9 => h9) rfl dX6_simulate_87 ?_
          refine lv_iconst (v := (1 : Int32)) hx hb dX6_simulate_90 (by decide) ?_
          refine xi_ld hx hb hK hP 2 (f := (mmS (M 0) R P x9 (if 0 < P ∧ 0 < R then cN m else 0))) rfl 1 rfl (by omega) (by decide) dX6_simulate_91 ?_
          refine lv_aload_n hx hb dX6_simulate_92 rfl (lv_at hl 0 rfl) ?_
          refine va_get (ci := 6) (v := .ref (a 0)) (C := RX6) (T := TX6) (N := 14) hx hb hts hi6 hown hK hP 0 rfl rfl 0 (by decide) lk7 (fun _ h9 => h9) rfl dX6_simulate_93 ?_
          refine lv_iconst (v := (1 : Int32)) hx hb dX6_simulate_96 (by decide) ?_
          refine xi_ld hx hb hK hP 1 (f := M 0) rfl 1 rfl (by omega) (by decide) dX6_simulate_97 ?_
          refine lv_isub hx hb dX6_simulate_98 ?_
          refine lv_imul hx hb dX6_simulate_99 ?_
          refine lv_aload_n hx hb dX6_simulate_100 rfl (lv_at hl 0 rfl) ?_
          refine va_get (ci := 6) (v := .ref (a 1)) (C := RX6) (T := TX6) (N := 14) hx hb hts hi6 hown hK hP 0 rfl rfl 1 (by decide) lk13 (fun _ h9 => h9) rfl dX6_simulate_101 ?_
          refine lv_iconst (v := (2 : Int32)) hx hb dX6_simulate_104 (by decide) ?_
          refine xi_ld hx hb hK hP 2 (f := (mmS (M 0) R P x9 (if 0 < P ∧ 0 < R then cN m else 0))) rfl 2 rfl (by omega) (by decide) dX6_simulate_105 ?_
          refine lv_iadd hx hb dX6_simulate_106 ?_
          refine lv_aload_n hx hb dX6_simulate_107 rfl (lv_at hl 0 rfl) ?_
          refine va_get (ci := 6) (v := .ref (a 0)) (C := RX6) (T := TX6) (N := 14) hx hb hts hi6 hown hK hP 0 rfl rfl 0 (by decide) lk7 (fun _ h9 => h9) rfl dX6_simulate_108 ?_
          refine lv_iconst (v := (2 : Int32)) hx hb dX6_simulate_111 (by decide) ?_
          refine xi_ld hx hb hK hP 1 (f := M 0) rfl 2 rfl (by omega) (by decide) dX6_simulate_112 ?_
          refine lv_isub hx hb dX6_simulate_113 ?_
          have eR2 : (0 : Int32) = nI (kSim m) := by exact (congrArg nI (show kSim m = _ from (by simp [kSim, c_12, c_34]; done))).symm
          have hP : va_P K.1 vwCl (mw K h a (hrow (hrow (hput (hrow M 1 (mmS (M 0) R P x9 (if 0 < P ∧ 0 < R then cN m else 0))) 8 (nI (kSim m))) 9 E) 10 F)) H := by rw [← eR2]; exact hP
          have hD : va_D A (mw K h a (hrow (hrow (hput (hrow M 1 (mmS (M 0) R P x9 (if 0 < P ∧ 0 < R then cN m else 0))) 8 (nI (kSim m))) 9 E) 10 F)) := by rw [← eR2]; exact hD
          exact hend _ _ _ _ _ _ _ (mmS (M 0) R P x9 (if 0 < P ∧ 0 < R then cN m else 0), E, F) hP hD hS (Nat.le_of_ble_eq_true rfl) (Nat.le_of_ble_eq_true rfl) (by first | (intro hk9; unfold smM; rfl; done) | (intro hk9; simp [kSim, c_12, c_34] at hk9; done)) dX6_simulate_114
        · skip
          refine lv_aload_n hx hb dX6_simulate_37 rfl (lv_at hl 0 rfl) ?_
          refine va_get (ci := 6) (v := .ref (a 1)) (C := RX6) (T := TX6) (N := 14) hx hb hts hi6 hown hK hP 0 rfl rfl 1 (by decide) lk13 (fun _ h9 => h9) rfl dX6_simulate_38 ?_
          refine lv_iconst (v := (4 : Int32)) hx hb dX6_simulate_41 (by decide) ?_
          refine xi_ld hx hb hK hP 2 (f := (mmS (M 0) R P x9 k)) rfl 4 rfl (by omega) (by decide) dX6_simulate_42 ?_
          refine xn_if_le (tgt := 83) hx hb P (km_mm (by decide) hP0) (by omega) dX6_simulate_43 (by decide) (fun c_43 => ?_) (fun c_43 => ?_)
          · skip
            have hk9 : (if 0 < P ∧ 0 < R then cN m else 0) = k := (show k = (if 0 < P ∧ 0 < R then cN m else 0) from sim_k2 hz (fun z => absurd z.1 (by omega))).symm
            subst hk9
            refine lv_sipush (v := (1000 : Int32)) hx hb dX6_simulate_83 (by decide) ?_
            refine lv_aload_n hx hb dX6_simulate_86 rfl (lv_at hl 0 rfl) ?_
            refine va_get (ci := 6) (v := .ref (a 1)) (C := RX6) (T := TX6) (N := 14) hx hb hts hi6 hown hK hP 0 rfl rfl 1 (by decide) lk13 (fun _ h9 => h9) rfl dX6_simulate_87 ?_
            refine lv_iconst (v := (1 : Int32)) hx hb dX6_simulate_90 (by decide) ?_
            refine xi_ld hx hb hK hP 2 (f := (mmS (M 0) R P x9 (if 0 < P ∧ 0 < R then cN m else 0))) rfl 1 rfl (by omega) (by decide) dX6_simulate_91 ?_
            refine lv_aload_n hx hb dX6_simulate_92 rfl (lv_at hl 0 rfl) ?_
            refine va_get (ci := 6) (v := .ref (a 0)) (C := RX6) (T := TX6) (N := 14) hx hb hts hi6 hown hK hP 0 rfl rfl 0 (by decide) lk7 (fun _ h9 => h9) rfl dX6_simulate_93 ?_
            refine lv_iconst (v := (1 : Int32)) hx hb dX6_simulate_96 (by decide) ?_
            refine xi_ld hx hb hK hP 1 (f := M 0) rfl 1 rfl (by omega) (by decide) dX6_simulate_97 ?_
            refine lv_isub hx hb dX6_simulate_98 ?_
            refine lv_imul hx hb dX6_simulate_99 ?_
            refine lv_aload_n hx hb dX6_simulate_100 rfl (lv_at hl 0 rfl) ?_
            refine va_get (ci := 6) (v := .ref (a 1)) (C := RX6) (T := TX6) (N := 14) hx hb hts hi6 hown hK hP 0 rfl rfl 1 (by decide) lk13 (fun _ h9 => h9) rfl dX6_simulate_101 ?_
            refine lv_iconst (v := (2 : Int32)) hx hb dX6_simulate_104 (by decide) ?_
            refine xi_ld hx hb hK hP 2 (f := (mmS (M 0) R P x9 (if 0 < P ∧ 0 < R then cN m else 0))) rfl 2 rfl (by omega) (by decide) dX6_simulate_105 ?_
            refine lv_iadd hx hb dX6_simulate_106 ?_
            refine lv_aload_n hx hb dX6_simulate_107 rfl (lv_at hl 0 rfl) ?_
            refine va_get (ci := 6) (v := .ref (a 0)) (C := RX6) (T := TX6) (N := 14) hx hb hts hi6 hown hK hP 0 rfl rfl 0 (by decide) lk7 (fun _ h9 => h9) rfl dX6_simulate_108 ?_
            refine lv_iconst (v := (2 : Int32)) hx hb dX6_simulate_111 (by decide) ?_
            refine xi_ld hx hb hK hP 1 (f := M 0) rfl 2 rfl (by omega) (by decide) dX6_simulate_112 ?_
            refine lv_isub hx hb dX6_simulate_113 ?_
            have eR3 : (0 : Int32) = nI (kSim m) := by exact (congrArg nI (show kSim m = _ from (by simp [kSim, c_12, c_34, c_43]; done))).symm
            have hP : va_P K.1 vwCl (mw K h a (hrow (hrow (hput (hrow M 1 (mmS (M 0) R P x9 (if 0 < P ∧ 0 < R then cN m else 0))) 8 (nI (kSim m))) 9 E) 10 F)) H := by rw [← eR3]; exact hP
            have hD : va_D A (mw K h a (hrow (hrow (hput (hrow M 1 (mmS (M 0) R P x9 (if 0 < P ∧ 0 < R then cN m else 0))) 8 (nI (kSim m))) 9 E) 10 F)) := by rw [← eR3]; exact hD
            exact hend _ _ _ _ _ _ _ (mmS (M 0) R P x9 (if 0 < P ∧ 0 < R then cN m else 0), E, F) hP hD hS (Nat.le_of_ble_eq_true rfl) (Nat.le_of_ble_eq_true rfl) (by first | (intro hk9; unfold smM; rfl; done) | (intro hk9; simp [kSim, c_12, c_34, c_43] at hk9; done)) dX6_simulate_114
          · skip
            refine lv_aload_n hx hb dX6_simulate_46 rfl (lv_at hl 0 rfl) ?_
            refine va_get (ci := 6) (v := .ref (a 1)) (C := RX6) (T := TX6) (N := 14) hx hb hts hi6 hown hK hP 0 rfl rfl 1 (by decide) lk13 (fun _ h9 => h9) rfl dX6_simulate_47 ?_
            refine lv_iconst (v := (3 : Int32)) hx hb dX6_simulate_50 (by decide) ?_
            refine xi_ld hx hb hK hP 2 (f := (mmS (M 0) R P x9 k)) rfl 3 rfl (by omega) (by decide) dX6_simulate_51 ?_
            refine xn_if_le (tgt := 83) hx hb R (km_mm (by decide) hR0) (by omega) dX6_simulate_52 (by decide) (fun c_52 => ?_) (fun c_52 => ?_)
            · skip
              have hk9 : (if 0 < P ∧ 0 < R then cN m else 0) = k := (show k = (if 0 < P ∧ 0 < R then cN m else 0) from sim_k2 hz (fun z => absurd z.2 (by omega))).symm
              subst hk9
              refine lv_sipush (v := (1000 : Int32)) hx hb dX6_simulate_83 (by decide) ?_
              refine lv_aload_n hx hb dX6_simulate_86 rfl (lv_at hl 0 rfl) ?_
              refine va_get (ci := 6) (v := .ref (a 1)) (C := RX6) (T := TX6) (N := 14) hx hb hts hi6 hown hK hP 0 rfl rfl 1 (by decide) lk13 (fun _ h9 => h9) rfl dX6_simulate_87 ?_
              refine lv_iconst (v := (1 : Int32)) hx hb dX6_simulate_90 (by decide) ?_
              refine xi_ld hx hb hK hP 2 (f := (mmS (M 0) R P x9 (if 0 < P ∧ 0 < R then cN m else 0))) rfl 1 rfl (by omega) (by decide) dX6_simulate_91 ?_
              refine lv_aload_n hx hb dX6_simulate_92 rfl (lv_at hl 0 rfl) ?_
              refine va_get (ci := 6) (v := .ref (a 0)) (C := RX6) (T := TX6) (N := 14) hx hb hts hi6 hown hK hP 0 rfl rfl 0 (by decide) lk7 (fun _ h9 => h9) rfl dX6_simulate_93 ?_
              refine lv_iconst (v := (1 : Int32)) hx hb dX6_simulate_96 (by decide) ?_
              refine xi_ld hx hb hK hP 1 (f := M 0) rfl 1 rfl (by omega) (by decide) dX6_simulate_97 ?_
              refine lv_isub hx hb dX6_simulate_98 ?_
              refine lv_imul hx hb dX6_simulate_99 ?_
              refine lv_aload_n hx hb dX6_simulate_100 rfl (lv_at hl 0 rfl) ?_
              refine va_get (ci := 6) (v := .ref (a 1)) (C := RX6) (T := TX6) (N := 14) hx hb hts hi6 hown hK hP 0 rfl rfl 1 (by decide) lk13 (fun _ h9 => h9) rfl dX6_simulate_101 ?_
              refine lv_iconst (v := (2 : Int32)) hx hb dX6_simulate_104 (by decide) ?_
              refine xi_ld hx hb hK hP 2 (f := (mmS (M 0) R P x9 (if 0 < P ∧ 0 < R then cN m else 0))) rfl 2 rfl (by omega) (by decide) dX6_simulate_105 ?_
              refine lv_iadd hx hb dX6_simulate_106 ?_
              refine lv_aload_n hx hb dX6_simulate_107 rfl (lv_at hl 0 rfl) ?_
              refine va_get (ci := 6) (v := .ref (a 0)) (C := RX6) (T := TX6) (N := 14) hx hb hts hi6 hown hK hP 0 rfl rfl 0 (by decide) lk7 (fun _ h9 => h9) rfl dX6_simulate_108 ?_
              refine lv_iconst (v := (2 : Int32)) hx hb dX6_simulate_111 (by decide) ?_
              refine xi_ld hx hb hK hP 1 (f := M 0) rfl 2 rfl (by omega) (by decide) dX6_simulate_112 ?_
              refine lv_isub hx hb dX6_simulate_113 ?_
              have eR4 : (0 : Int32) = nI (kSim m) := by exact (congrArg nI (show kSim m = _ from (by simp [kSim, c_12, c_34, c_43, c_52]; done))).symm
              have hP : va_P K.1 vwCl (mw K h a (hrow (hrow (hput (hrow M 1 (mmS (M 0) R P x9 (if 0 < P ∧ 0 < R then cN m else 0))) 8 (nI (kSim m))) 9 E) 10 F)) H := by rw [← eR4]; exact hP
              have hD : va_D A (mw K h a (hrow (hrow (hput (hrow M 1 (mmS (M 0) R P x9 (if 0 < P ∧ 0 < R then cN m else 0))) 8 (nI (kSim m))) 9 E) 10 F)) := by rw [← eR4]; exact hD
              exact hend _ _ _ _ _ _ _ (mmS (M 0) R P x9 (if 0 < P ∧ 0 < R then cN m else 0), E, F) hP hD hS (Nat.le_of_ble_eq_true rfl) (Nat.le_of_ble_eq_true rfl) (by first | (intro hk9; unfold smM; rfl; done) | (intro hk9; simp [kSim, c_12, c_34, c_43, c_52] at hk9; done)) dX6_simulate_114
            · skip
              refine lv_lload hx hb dX6_simulate_55 (lv_at hl 3 rfl) ?_
              refine lv_ldc2 (v := (6364136223846793005 : Int64)) hx hb hown (hts (.constantLong RX6 178 (6364136223846793005)) (by decide +kernel)) dX6_simulate_57 ?_
              refine lv_lmul hx hb dX6_simulate_60 ?_
              refine lv_ldc2 (v := (1442695040888963407 : Int64)) hx hb hown (hts (.constantLong RX6 180 (1442695040888963407)) (by decide +kernel)) dX6_simulate_61 ?_
              refine lv_ladd hx hb dX6_simulate_64 ?_
              refine lv_lstore (lv' := [(4, .long (((smX x9 k) * (6364136223846793005 : Int64)) + (1442695040888963407 : Int64))), (0, .ref h), (1, .long x9), (3, .int m), (6, .int (nI k))]) hx hb dX6_simulate_65 hl (by decide) rfl (fun ls hl => ?_)
              refine lv_aload_n hx hb dX6_simulate_67 rfl (lv_at hl 1 rfl) ?_
              refine lv_lload hx hb dX6_simulate_68 (lv_at hl 0 rfl) ?_
              refine lv_bipush (v := (33 : Int32)) hx hb dX6_simulate_70 (by decide) ?_
              refine lv_lushr (v := ((((smX x9 k) * (6364136223846793005 : Int64)) + (1442695040888963407 : Int64)).toUInt64 >>> ((33 : Int32).toInt64.toUInt64 &&& Int64.toUInt64 63)).toInt64) hx hb dX6_simulate_72 rfl ?_
              refine lv_l2i (v := nI (rN (smX x9 (k + 1)))) hx hb dX6_simulate_73 (rN_eq (smX x9 (k + 1))) ?_
              obtain ⟨xr, hxr⟩ : ∃ xr : Nat, xr = rN (smX x9 (k + 1)) := ⟨_, rfl⟩
              have hxl : xr < 2147483648 := by rw [hxr]; exact rN_lt _
              rw [← hxr]
              refine xw_Vv (As := [.int (nI xr)]) (rest := []) (wc := mw K h a (hrow (hrow (hput (hrow M 1 (mmS (M 0) R P x9 k)) 8 (0 : Int32)) 9 E) 10 F)) (wr := (List.filterMap (fun i => (mw K h a (hrow (hrow (hput (hrow M 1 (mmS (M 0) R P x9 k)) 8 (0 : Int32)) 9 E) 10 F) : va_W)[i]?) ([] : List Nat))) ⟨hx, hb, hml, hown, hts⟩ (c_X6_passes l K h a (hrow (hrow (hput (hrow M 1 (mmS (M 0) R P x9 k)) 8 (0 : Int32)) 9 E) 10 F) xr (by exact hxl) R (km_mm (by decide) hR0) (by omega) P (km_mm (by decide) hP0) (by omega) (hmo ⟨c_43, c_52⟩ k (by omega)) c_43 H.size) (cwV 1 hts gX6_simulate_X6_passes rfl rfl rfl (by decide +kernel) ⟨Nat.le_of_ble_eq_true rfl, Nat.le_of_ble_eq_true rfl⟩) hK hP hD hS hA [0, 1, 2, 3, 4, 5, 6, 7, 8, 9] [] [0, 1, 2, 3, 4, 5, 6, 7, 8, 9] rfl rfl rfl (fun D74 => mw K h a (hrow (hrow (hput (hrow M 1 (mdS ((mmS (M 0) R P x9 k)) R P xr)) 8 (0 : Int32)) 9 D74.1) 10 D74.2)) (fun _ => rfl) 0 6 rfl rfl rfl rfl hl.1 rfl (Nat.le_of_ble_eq_true rfl) (Nat.le_of_ble_eq_true rfl) (Nat.le_of_ble_eq_true rfl) dX6_simulate_74 (fun D74 H locs hq74 hP hD hS => ?_)
              have hP : va_P K.1 vwCl (mw K h a (hrow (hrow (hput (hrow M 1 (mdS ((mmS (M 0) R P x9 k)) R P xr)) 8 (0 : Int32)) 9 D74.1) 10 D74.2)) H := hP
              have hD : va_D A (mw K h a (hrow (hrow (hput (hrow M 1 (mdS ((mmS (M 0) R P x9 k)) R P xr)) 8 (0 : Int32)) 9 D74.1) 10 D74.2)) := hD
              refine lv_iinc (v := nI (k + 1)) (lv' := [(6, .int (nI (k + 1))), (4, .long (((smX x9 k) * (6364136223846793005 : Int64)) + (1442695040888963407 : Int64))), (0, .ref h), (1, .long x9), (3, .int m)]) hx hb dX6_simulate_77 hl (k := 4) rfl (nI_1 _) (by decide) rfl (fun ls hl => ?_)
              refine lv_goto (tgt := 31) hx hb dX6_simulate_80 (by decide) ?_
              have eR5 : (mdS ((mmS (M 0) R P x9 k)) R P xr) = mmS (M 0) R P x9 (k + 1) := by rw [hxr, mmS]
              rw [eR5] at hP hD
              have hP : va_P K.1 vwCl (mw K h a (hrow (hrow (hput (hrow M 1 (mmS (M 0) R P x9 (k + 1))) 8 (0 : Int32)) 9 D74.1) 10 D74.2)) H := hP
              have hD : va_D A (mw K h a (hrow (hrow (hput (hrow M 1 (mmS (M 0) R P x9 (k + 1))) 8 (0 : Int32)) 9 D74.1) 10 D74.2)) := hD
              exact ih31 (k + 1) D74.1 D74.2 _ _ _ (by omega) (by first | omega | assumption | first | rfl | (simp [c_12, c_34, c_43, c_52]; done) | omega) (by exact Or.inr ⟨c_43, c_52⟩) hP hD hS (lv_cons (lv_at hl 2 rfl) (lv_cons (lv_at hl 3 rfl) (lv_cons (lv_at hl 4 rfl) (lv_cons (lv_isL (lv_at hl 1 rfl) (show ((smX x9 k) * (6364136223846793005 : Int64)) + (1442695040888963407 : Int64) = smX x9 (k + 1) by rw [smX])) (lv_cons (lv_at hl 0 rfl) (lv_nil hl))))))
    have eR6 : (M 0) = mmS (M 0) R P x9 0 := by rfl
    have hP : va_P K.1 vwCl (mw K h a (hput (hrow M 1 (mmS (M 0) R P x9 0)) 8 (0 : Int32))) H := by rw [← eR6]; exact hP
    have hD : va_D A (mw K h a (hput (hrow M 1 (mmS (M 0) R P x9 0)) 8 (0 : Int32))) := by rw [← eR6]; exact hD
    have hP : va_P K.1 vwCl (mw K h a (hrow (hrow (hput (hrow M 1 (mmS (M 0) R P x9 0)) 8 (0 : Int32)) 9 (M 9)) 10 (M 10))) H := hP
    have hD : va_D A (mw K h a (hrow (hrow (hput (hrow M 1 (mmS (M 0) R P x9 0)) 8 (0 : Int32)) 9 (M 9)) 10 (M 10))) := hD
    exact lp31 _ 0 (M 9) (M 10) _ _ _ (Nat.lt_succ_self _) (by first | omega | assumption | first | rfl | (simp [c_12]; done) | omega) (by exact Or.inl rfl) hP hD hS (lv_cons (lv_at hl 2 rfl) (lv_cons (lv_at hl 3 rfl) (lv_cons (lv_at hl 4 rfl) (lv_cons (lv_isL (lv_at hl 1 rfl) (show x9 = smX x9 0 by rfl)) (lv_cons (lv_is (lv_at hl 0 rfl) (show (0 : Int32) = nI 0 by rfl)) (lv_nil hl))))))
  · skip
    refine lv_aload_n hx hb dX6_simulate_15 rfl (lv_at hl 0 rfl) ?_
    refine lv_iconst (v := (1 : Int32)) hx hb dX6_simulate_16 (by decide) ?_
    refine xw_Vi (As := [.int (1 : Int32)]) (rest := []) (wc := mw K h a (hput M 8 (0 : Int32))) (wr := (List.filterMap (fun i => (mw K h a (hput M 8 (0 : Int32)) : va_W)[i]?) ([] : List Nat))) ⟨hx, hb, hml, hown, hts⟩ (c_X6_fails l K h a (hput M 8 (0 : Int32)) (1 : Int32) H.size) (cwV 1 hts gX6_simulate_X6_fails rfl rfl rfl (by decide +kernel) ⟨Nat.le_of_ble_eq_true rfl, Nat.le_of_ble_eq_true rfl⟩) hK hP hD hS hA [0, 1, 2, 3, 4, 5, 6, 7, 8, 9] [] [0, 1, 2, 3, 4, 5, 6, 7, 8, 9] rfl rfl rfl (fun _u => mw K h a (hput M 8 (1 : Int32))) (fun _ => rfl) 0 6 rfl rfl rfl rfl hl.1 rfl (Nat.le_of_ble_eq_true rfl) (Nat.le_of_ble_eq_true rfl) (Nat.le_of_ble_eq_true rfl) dX6_simulate_17 (fun r17 _ H locs hq17 hP hD hS => ?_)
    have hP : va_P K.1 vwCl (mw K h a (hput M 8 (1 : Int32))) H := hP
    have hD : va_D A (mw K h a (hput M 8 (1 : Int32))) := hD
    subst hq17
    have eR7 : (1 : Int32) = nI (kSim m) := by exact (congrArg nI (show kSim m = _ from (by simp [kSim, c_12]; done))).symm
    have hP : va_P K.1 vwCl (mw K h a (hput M 8 (nI (kSim m)))) H := by rw [← eR7]; exact hP
    have hD : va_D A (mw K h a (hput M 8 (nI (kSim m)))) := by rw [← eR7]; exact hD
    exact hend _ _ _ _ _ _ _ (M 1, M 9, M 10) hP hD hS (Nat.le_of_ble_eq_true rfl) (Nat.le_of_ble_eq_true rfl) (by first | (intro hk9; unfold smM; rfl; done) | (intro hk9; simp [kSim, c_12] at hk9; done)) dX6_simulate_20

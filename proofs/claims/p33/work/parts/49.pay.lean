/-! pay adds up, roles played are performances of players, players by pay are in order -/
theorem ahd_q {S : HV} {a b : Nat} (h : ahd S a b) (h2 : ¬ S 5 b < S 5 a) : S 5 a = S 5 b ∧ a < b := h.resolve_left h2

abbrev rm_L_pay : Room := { frames := 8, cells := 2200, slots := 13200, locals := 134 }
set_option maxHeartbeats 4000000 in
set_option maxRecDepth 100000 in
theorem c_L_pay (l : Launch) (K : KX) (x : Nat) (tx : Nat) (ho : Nat) (ca : Nat) (tr : Nat) (hi : Nat) (sl : Nat) (sv : Nat) (hoa : Nat → Nat) (S : HV) (caa : Nat → Nat) (C : HV) (R : Nat) (hR0 : S 10 0 = nI R) (hR0b : R ≤ 6) (P : Nat) (hP0 : S 11 0 = nI P) (hP0b : P ≤ 10) (hls : l.stackTraces = false) (B : Nat) (hI : INV S R P B) (hB : B ≤ 10000) (sz : Nat) : Met l yL_pay wsL_pay rm_L_pay (va_Pc [.ref x] (xPreS K ([(x, .inr (5, [.ref tx, .ref ho, .ref ca, .ref tr, .ref hi, .ref sl, .ref sv]))] ++ hw K ho hoa S ++ cw K ca caa C) sz)) (va_Qi (fun (r9 : Int32) (u9 : HV) => r9 = 1) (fun u9 t => xPost K (va_A ([(x, .inr (5, [.ref tx, .ref ho, .ref ca, .ref tr, .ref hi, .ref sl, .ref sv]))] ++ hw K ho hoa S ++ cw K ca caa C) sz) ([(x, .inr (5, [.ref tx, .ref ho, .ref ca, .ref tr, .ref hi, .ref sl, .ref sv]))] ++ hw K ho hoa S ++ cw K ca caa u9) t) (va_A ([(x, .inr (5, [.ref tx, .ref ho, .ref ca, .ref tr, .ref hi, .ref sl, .ref sv]))] ++ hw K ho hoa S ++ cw K ca caa C) sz)) 2200 13200 (va_A ([(x, .inr (5, [.ref tx, .ref ho, .ref ca, .ref tr, .ref hi, .ref sl, .ref sv]))] ++ hw K ho hoa S ++ cw K ca caa C) sz) := by
  refine xs_startz (cc := cL_pay) (maxL := 10) (ret := .boolean) (by decide) rfl (Nat.le_of_ble_eq_true rfl) ?_
  intro p9 e9 s9 m9 below9 meth9 c9 H locs ls A av9 Q9 hx hb hlocks hml hname hts hown hK hP hD hS hA hsz hZ hend hl
  have hown : s9.vm.findClass RL = some m9.cls := hown
  have hl : lv_has ls 10 [(0, .ref x)] := hl
  have hC := hI.2.1
  have hz := hI.1.2.2.2.2
  refine lv_iconst (v := (0 : Int32)) hx hb dL_pay_0 (by decide) ?_
  refine lv_istore_n (lv' := [(1, .int (0 : Int32)), (0, .ref x)]) hx hb dL_pay_1 rfl hl (by decide) rfl (fun ls hl => ?_)
  refine lv_iconst (v := (0 : Int32)) hx hb dL_pay_2 (by decide) ?_
  refine lv_istore_n (lv' := [(2, .int (0 : Int32)), (1, .int (0 : Int32)), (0, .ref x)]) hx hb dL_pay_3 rfl hl (by decide) rfl (fun ls hl => ?_)
  refine lv_iconst (v := (0 : Int32)) hx hb dL_pay_4 (by decide) ?_
  refine lv_istore_n (lv' := [(3, .int (0 : Int32)), (2, .int (0 : Int32)), (1, .int (0 : Int32)), (0, .ref x)]) hx hb dL_pay_5 rfl hl (by decide) rfl (fun ls hl => ?_)
  refine lv_iconst (v := (-1 : Int32)) hx hb dL_pay_6 (by decide) ?_
  refine lv_istore (lv' := [(4, .int (-1 : Int32)), (3, .int (0 : Int32)), (2, .int (0 : Int32)), (1, .int (0 : Int32)), (0, .ref x)]) hx hb dL_pay_7 hl (by decide) rfl (fun ls hl => ?_)
  refine lv_iconst (v := (1 : Int32)) hx hb dL_pay_9 (by decide) ?_
  refine lv_istore (lv' := [(5, .int (1 : Int32)), (4, .int (-1 : Int32)), (3, .int (0 : Int32)), (2, .int (0 : Int32)), (1, .int (0 : Int32)), (0, .ref x)]) hx hb dL_pay_10 hl (by decide) rfl (fun ls hl => ?_)
  refine lv_iconst (v := (0 : Int32)) hx hb dL_pay_12 (by decide) ?_
  refine lv_istore (lv' := [(6, .int (0 : Int32)), (5, .int (1 : Int32)), (4, .int (-1 : Int32)), (3, .int (0 : Int32)), (2, .int (0 : Int32)), (1, .int (0 : Int32)), (0, .ref x)]) hx hb dL_pay_13 hl (by decide) rfl (fun ls hl => ?_)
  have lp15 : ∀ (n9 : Nat) (k : Nat) (E : HV) (H : Heap) (locs : List Loc) (ls : Array Slot), P - k < n9 → (k ≤ P) → va_P K.1 vwCl ([(x, .inr (5, [.ref tx, .ref ho, .ref ca, .ref tr, .ref hi, .ref sl, .ref sv]))] ++ hw K ho hoa S ++ cw K ca caa E) H → va_D A ([(x, .inr (5, [.ref tx, .ref ho, .ref ca, .ref tr, .ref hi, .ref sl, .ref sv]))] ++ hw K ho hoa S ++ cw K ca caa E) → va_S A s9.heap H locs → lv_has ls 10 [(0, .ref x), (1, .int (sumN (S 5) k)), (2, .int (sumN (S 8) k)), (3, .int (tmS S R k)), (4, .int (bfr S P k)), (5, .int (1 : Int32)), (6, .int (nI k))] → W p9 l e9 rm_L_pay s9 m9 av9 below9 meth9 c9 H locs (210 * k) (1260 * k) Q9 (F0 m9 15 ls []) := by
    intro n9
    induction n9 with
    | zero => intro k E H locs ls hmu hk hP hD hS hl; exact absurd hmu (Nat.not_lt_zero _)
    | succ n9 ih15 =>
      intro k E H locs ls hmu hk hP hD hS hl
      refine lv_iload hx hb dL_pay_15 (lv_at hl 6 rfl) ?_
      refine lv_aload_n hx hb dL_pay_17 rfl (lv_at hl 0 rfl) ?_
      refine lv_iconst (v := (1 : Int32)) hx hb dL_pay_18 (by decide) ?_
      refine xs_Vi (As := [.int (1 : Int32)]) (rest := [.int (nI k)]) (wc := [(x, .inr (5, [.ref tx, .ref ho, .ref ca, .ref tr, .ref hi, .ref sl, .ref sv]))] ++ hw K ho hoa S) (wr := (List.filterMap (fun i => ([(x, .inr (5, [.ref tx, .ref ho, .ref ca, .ref tr, .ref hi, .ref sl, .ref sv]))] ++ hw K ho hoa S ++ cw K ca caa E : va_W)[i]?) ([12, 13, 14, 15] : List Nat))) ⟨hx, hb, hml, hown, hts⟩ (c_X5_about_1 l K x tx ho ca tr hi sl sv hoa S P hP0 (by omega) (by first | assumption | omega) (by first | assumption | omega) H.size) (cwV 1 hts gL_pay_X5_about rfl rfl rfl (by decide +kernel) ⟨Nat.le_of_ble_eq_true rfl, Nat.le_of_ble_eq_true rfl⟩) hK hP hD hS hZ hA [0, 1, 2, 3, 4, 5, 6, 7, 8, 9, 10, 11] [12, 13, 14, 15] [4, 5, 6, 7, 8, 9, 10, 11, 12, 13, 14, 15, 0, 1, 2, 3] rfl rfl rfl (fun _u => [(x, .inr (5, [.ref tx, .ref ho, .ref ca, .ref tr, .ref hi, .ref sl, .ref sv]))] ++ hw K ho hoa S ++ cw K ca caa E) (fun _ => rfl) 0 5 rfl rfl rfl rfl hl.1 rfl (Nat.le_of_ble_eq_true rfl) (by show (210 * k) + 4 ≤ 2200; omega) (by show (1260 * k) + 24 ≤ 13200; omega) dL_pay_19 (fun r19 _ H locs hq19 hP hD hS => ?_)
      have hP : va_P K.1 vwCl ([(x, .inr (5, [.ref tx, .ref ho, .ref ca, .ref tr, .ref hi, .ref sl, .ref sv]))] ++ hw K ho hoa S ++ cw K ca caa E) H := hP
      have hD : va_D A ([(x, .inr (5, [.ref tx, .ref ho, .ref ca, .ref tr, .ref hi, .ref sl, .ref sv]))] ++ hw K ho hoa S ++ cw K ca caa E) := hD
      subst hq19
      refine xn_icmp_ge (tgt := 313) hx hb k P rfl hP0 (by omega) (by omega) dL_pay_22 (by decide) (fun c_22 => ?_) (fun c_22 => ?_)
      · skip
        refine W.widen (k := 2104) (n := 12624) (by show ((210 * k) + 4) ≤ 2104; omega) (by show ((1260 * k) + 24) ≤ 12624; omega) ?_
        have hkP : k = P := by omega
        rw [hkP] at hl
        refine lv_iload hx hb dL_pay_313 (lv_at hl 5 rfl) ?_
        refine lv_if_eq (tgt := 359) hx hb dL_pay_315 (by decide) (fun c_315 => ?_) (fun c_315 => ?_)
        · exact absurd c_315 (by decide)
        refine lv_iload_n hx hb dL_pay_318 rfl (lv_at hl 1 rfl) ?_
        refine lv_aload_n hx hb dL_pay_319 rfl (lv_at hl 0 rfl) ?_
        refine lv_iconst (v := (5 : Int32)) hx hb dL_pay_320 (by decide) ?_
        refine xs_Vi (As := [.int (5 : Int32)]) (rest := [.int (sumN (S 5) P)]) (wc := [(x, .inr (5, [.ref tx, .ref ho, .ref ca, .ref tr, .ref hi, .ref sl, .ref sv]))] ++ hw K ho hoa S) (wr := (List.filterMap (fun i => ([(x, .inr (5, [.ref tx, .ref ho, .ref ca, .ref tr, .ref hi, .ref sl, .ref sv]))] ++ hw K ho hoa S ++ cw K ca caa E : va_W)[i]?) ([12, 13, 14, 15] : List Nat))) ⟨hx, hb, hml, hown, hts⟩ (c_X5_about_5 l K x tx ho ca tr hi sl sv hoa S P hP0 (by omega) (by first | assumption | omega) (by first | assumption | omega) H.size) (cwV 1 hts gL_pay_X5_about rfl rfl rfl (by decide +kernel) ⟨Nat.le_of_ble_eq_true rfl, Nat.le_of_ble_eq_true rfl⟩) hK hP hD hS hZ hA [0, 1, 2, 3, 4, 5, 6, 7, 8, 9, 10, 11] [12, 13, 14, 15] [4, 5, 6, 7, 8, 9, 10, 11, 12, 13, 14, 15, 0, 1, 2, 3] rfl rfl rfl (fun _u => [(x, .inr (5, [.ref tx, .ref ho, .ref ca, .ref tr, .ref hi, .ref sl, .ref sv]))] ++ hw K ho hoa S ++ cw K ca caa E) (fun _ => rfl) 0 5 rfl rfl rfl rfl hl.1 rfl (Nat.le_of_ble_eq_true rfl) (Nat.le_of_ble_eq_true rfl) (Nat.le_of_ble_eq_true rfl) dL_pay_321 (fun r321 _ H locs hq321 hP hD hS => ?_)
        have hP : va_P K.1 vwCl ([(x, .inr (5, [.ref tx, .ref ho, .ref ca, .ref tr, .ref hi, .ref sl, .ref sv]))] ++ hw K ho hoa S ++ cw K ca caa E) H := hP
        have hD : va_D A ([(x, .inr (5, [.ref tx, .ref ho, .ref ca, .ref tr, .ref hi, .ref sl, .ref sv]))] ++ hw K ho hoa S ++ cw K ca caa E) := hD
        subst hq321
        refine lv_icmp_ne (tgt := 359) hx hb dL_pay_324 (by decide) (fun c_324 => ?_) (fun c_324 => ?_)
        · exact absurd rfl c_324
        · skip
          refine lv_iload_n hx hb dL_pay_327 rfl (lv_at hl 2 rfl) ?_
          refine lv_iload_n hx hb dL_pay_328 rfl (lv_at hl 3 rfl) ?_
          refine lv_icmp_ne (tgt := 359) hx hb dL_pay_329 (by decide) (fun c_329 => ?_) (fun c_329 => ?_)
          · exact absurd (py_eq hI) c_329
          · skip
            refine lv_aload_n hx hb dL_pay_332 rfl (lv_at hl 0 rfl) ?_
            refine lv_bipush (v := (7 : Int32)) hx hb dL_pay_333 (by decide) ?_
            refine xs_Vi (As := [.int (7 : Int32)]) (rest := []) (wc := [(x, .inr (5, [.ref tx, .ref ho, .ref ca, .ref tr, .ref hi, .ref sl, .ref sv]))] ++ hw K ho hoa S) (wr := (List.filterMap (fun i => ([(x, .inr (5, [.ref tx, .ref ho, .ref ca, .ref tr, .ref hi, .ref sl, .ref sv]))] ++ hw K ho hoa S ++ cw K ca caa E : va_W)[i]?) ([12, 13, 14, 15] : List Nat))) ⟨hx, hb, hml, hown, hts⟩ (c_X5_about_7 l K x tx ho ca tr hi sl sv hoa S P hP0 (by omega) (by first | assumption | omega) (by first | assumption | omega) H.size) (cwV 1 hts gL_pay_X5_about rfl rfl rfl (by decide +kernel) ⟨Nat.le_of_ble_eq_true rfl, Nat.le_of_ble_eq_true rfl⟩) hK hP hD hS hZ hA [0, 1, 2, 3, 4, 5, 6, 7, 8, 9, 10, 11] [12, 13, 14, 15] [4, 5, 6, 7, 8, 9, 10, 11, 12, 13, 14, 15, 0, 1, 2, 3] rfl rfl rfl (fun _u => [(x, .inr (5, [.ref tx, .ref ho, .ref ca, .ref tr, .ref hi, .ref sl, .ref sv]))] ++ hw K ho hoa S ++ cw K ca caa E) (fun _ => rfl) 0 5 rfl rfl rfl rfl hl.1 rfl (Nat.le_of_ble_eq_true rfl) (Nat.le_of_ble_eq_true rfl) (Nat.le_of_ble_eq_true rfl) dL_pay_335 (fun r335 _ H locs hq335 hP hD hS => ?_)
            have hP : va_P K.1 vwCl ([(x, .inr (5, [.ref tx, .ref ho, .ref ca, .ref tr, .ref hi, .ref sl, .ref sv]))] ++ hw K ho hoa S ++ cw K ca caa E) H := hP
            have hD : va_D A ([(x, .inr (5, [.ref tx, .ref ho, .ref ca, .ref tr, .ref hi, .ref sl, .ref sv]))] ++ hw K ho hoa S ++ cw K ca caa E) := hD
            subst hq335
            refine lv_iload_n hx hb dL_pay_338 rfl (lv_at hl 3 rfl) ?_
            refine lv_icmp_gt (tgt := 359) hx hb dL_pay_339 (by decide) (fun c_339 => ?_) (fun c_339 => ?_)
            · exact absurd (py_std hI hB) (Int32.not_le.mpr c_339)
            · skip
              have c_339n := Int32.not_lt.mp c_339
              refine lv_aload_n hx hb dL_pay_342 rfl (lv_at hl 0 rfl) ?_
              refine lv_aload_n hx hb dL_pay_343 rfl (lv_at hl 0 rfl) ?_
              refine lv_iconst (v := (1 : Int32)) hx hb dL_pay_344 (by decide) ?_
              refine xs_Vi (As := [.int (1 : Int32)]) (rest := [.ref x]) (wc := [(x, .inr (5, [.ref tx, .ref ho, .ref ca, .ref tr, .ref hi, .ref sl, .ref sv]))] ++ hw K ho hoa S) (wr := (List.filterMap (fun i => ([(x, .inr (5, [.ref tx, .ref ho, .ref ca, .ref tr, .ref hi, .ref sl, .ref sv]))] ++ hw K ho hoa S ++ cw K ca caa E : va_W)[i]?) ([12, 13, 14, 15] : List Nat))) ⟨hx, hb, hml, hown, hts⟩ (c_X5_about_1 l K x tx ho ca tr hi sl sv hoa S P hP0 (by omega) (by first | assumption | omega) (by first | assumption | omega) H.size) (cwV 1 hts gL_pay_X5_about rfl rfl rfl (by decide +kernel) ⟨Nat.le_of_ble_eq_true rfl, Nat.le_of_ble_eq_true rfl⟩) hK hP hD hS hZ hA [0, 1, 2, 3, 4, 5, 6, 7, 8, 9, 10, 11] [12, 13, 14, 15] [4, 5, 6, 7, 8, 9, 10, 11, 12, 13, 14, 15, 0, 1, 2, 3] rfl rfl rfl (fun _u => [(x, .inr (5, [.ref tx, .ref ho, .ref ca, .ref tr, .ref hi, .ref sl, .ref sv]))] ++ hw K ho hoa S ++ cw K ca caa E) (fun _ => rfl) 0 5 rfl rfl rfl rfl hl.1 rfl (Nat.le_of_ble_eq_true rfl) (Nat.le_of_ble_eq_true rfl) (Nat.le_of_ble_eq_true rfl) dL_pay_345 (fun r345 _ H locs hq345 hP hD hS => ?_)
              have hP : va_P K.1 vwCl ([(x, .inr (5, [.ref tx, .ref ho, .ref ca, .ref tr, .ref hi, .ref sl, .ref sv]))] ++ hw K ho hoa S ++ cw K ca caa E) H := hP
              have hD : va_D A ([(x, .inr (5, [.ref tx, .ref ho, .ref ca, .ref tr, .ref hi, .ref sl, .ref sv]))] ++ hw K ho hoa S ++ cw K ca caa E) := hD
              subst hq345
              rw [show S 11 0 = nI P from hP0]
              refine xs_Vi (As := [.int (nI P)]) (rest := []) (wc := [(x, .inr (5, [.ref tx, .ref ho, .ref ca, .ref tr, .ref hi, .ref sl, .ref sv]))] ++ hw K ho hoa S) (wr := (List.filterMap (fun i => ([(x, .inr (5, [.ref tx, .ref ho, .ref ca, .ref tr, .ref hi, .ref sl, .ref sv]))] ++ hw K ho hoa S ++ cw K ca caa E : va_W)[i]?) ([12, 13, 14, 15] : List Nat))) ⟨hx, hb, hml, hown, hts⟩ (c_X5_ranked_n l K x tx ho ca tr hi sl sv P hoa S P hP0 (by omega) (by first | assumption | omega) (by first | assumption | omega) H.size) (cwV 1 hts gL_pay_X5_ranked rfl rfl rfl (by decide +kernel) ⟨Nat.le_of_ble_eq_true rfl, Nat.le_of_ble_eq_true rfl⟩) hK hP hD hS hZ hA [0, 1, 2, 3, 4, 5, 6, 7, 8, 9, 10, 11] [12, 13, 14, 15] [4, 5, 6, 7, 8, 9, 10, 11, 12, 13, 14, 15, 0, 1, 2, 3] rfl rfl rfl (fun _u => [(x, .inr (5, [.ref tx, .ref ho, .ref ca, .ref tr, .ref hi, .ref sl, .ref sv]))] ++ hw K ho hoa S ++ cw K ca caa E) (fun _ => rfl) 0 5 rfl rfl rfl rfl hl.1 rfl (Nat.le_of_ble_eq_true rfl) (Nat.le_of_ble_eq_true rfl) (Nat.le_of_ble_eq_true rfl) dL_pay_348 (fun r348 _ H locs hq348 hP hD hS => ?_)
              have hP : va_P K.1 vwCl ([(x, .inr (5, [.ref tx, .ref ho, .ref ca, .ref tr, .ref hi, .ref sl, .ref sv]))] ++ hw K ho hoa S ++ cw K ca caa E) H := hP
              have hD : va_D A ([(x, .inr (5, [.ref tx, .ref ho, .ref ca, .ref tr, .ref hi, .ref sl, .ref sv]))] ++ hw K ho hoa S ++ cw K ca caa E) := hD
              subst hq348
              rw [show fstF (fun p => decide (plc S p P = nI P)) 0 P = (-1 : Int32) from rk_end hP0b]
              refine lv_iconst (v := (-1 : Int32)) hx hb dL_pay_351 (by decide) ?_
              refine lv_icmp_ne (tgt := 359) hx hb dL_pay_352 (by decide) (fun c_352 => ?_) (fun c_352 => ?_)
              · exact absurd c_352 (by decide)
              refine lv_iconst (v := (1 : Int32)) hx hb dL_pay_355 (by decide) ?_
              refine lv_goto (tgt := 360) hx hb dL_pay_356 (by decide) ?_
              exact hend _ _ _ _ _ _ _ (by decide) E hP hD hS (Nat.le_of_ble_eq_true rfl) (Nat.le_of_ble_eq_true rfl) (by first | rfl | (simp [c_22, c_324, c_329, c_339, c_339n]; done) | omega) dL_pay_360
      · skip
        refine lv_iload hx hb dL_pay_25 (lv_at hl 5 rfl) ?_
        refine lv_if_eq (tgt := 313) hx hb dL_pay_27 (by decide) (fun c_27 => ?_) (fun c_27 => ?_)
        · exact absurd c_27 (by decide)
        refine lv_iload_n hx hb dL_pay_30 rfl (lv_at hl 1 rfl) ?_
        refine lv_aload_n hx hb dL_pay_31 rfl (lv_at hl 0 rfl) ?_
        refine lv_iload hx hb dL_pay_32 (lv_at hl 6 rfl) ?_
        refine lv_iconst (v := (0 : Int32)) hx hb dL_pay_34 (by decide) ?_
        refine xs_Vi (As := [.int (nI k), .int (0 : Int32)]) (rest := [.int (sumN (S 5) k)]) (wc := [(x, .inr (5, [.ref tx, .ref ho, .ref ca, .ref tr, .ref hi, .ref sl, .ref sv]))] ++ hw K ho hoa S ++ cw K ca caa E) (wr := (List.filterMap (fun i => ([(x, .inr (5, [.ref tx, .ref ho, .ref ca, .ref tr, .ref hi, .ref sl, .ref sv]))] ++ hw K ho hoa S ++ cw K ca caa E : va_W)[i]?) ([] : List Nat))) ⟨hx, hb, hml, hown, hts⟩ (c_X5_player_0 l K x tx ho ca tr hi sl sv k hoa S caa E R hR0 (by omega) P hP0 (by omega) (by first | assumption | omega) (by first | assumption | omega) H.size) (cwV 2 hts gL_pay_X5_player rfl rfl rfl (by decide +kernel) ⟨Nat.le_of_ble_eq_true rfl, Nat.le_of_ble_eq_true rfl⟩) hK hP hD hS hZ hA [0, 1, 2, 3, 4, 5, 6, 7, 8, 9, 10, 11, 12, 13, 14, 15] [] [0, 1, 2, 3, 4, 5, 6, 7, 8, 9, 10, 11, 12, 13, 14, 15] rfl rfl rfl (fun u9_35 => [(x, .inr (5, [.ref tx, .ref ho, .ref ca, .ref tr, .ref hi, .ref sl, .ref sv]))] ++ hw K ho hoa S ++ cw K ca caa u9_35) (fun _ => rfl) 0 5 rfl rfl rfl rfl hl.1 rfl (Nat.le_of_ble_eq_true rfl) (by show ((210 * k) + 4) + 4 ≤ 2200; omega) (by show ((1260 * k) + 24) + 24 ≤ 13200; omega) dL_pay_35 (fun r35 u9_35 H locs hq35 hP hD hS => ?_)
        have hP : va_P K.1 vwCl ([(x, .inr (5, [.ref tx, .ref ho, .ref ca, .ref tr, .ref hi, .ref sl, .ref sv]))] ++ hw K ho hoa S ++ cw K ca caa u9_35) H := hP
        have hD : va_D A ([(x, .inr (5, [.ref tx, .ref ho, .ref ca, .ref tr, .ref hi, .ref sl, .ref sv]))] ++ hw K ho hoa S ++ cw K ca caa u9_35) := hD
        subst hq35
        refine lv_iadd hx hb dL_pay_38 ?_
        refine lv_istore_n (lv' := [(1, .int ((sumN (S 5) k) + (S 5 k))), (0, .ref x), (2, .int (sumN (S 8) k)), (3, .int (tmS S R k)), (4, .int (bfr S P k)), (5, .int (1 : Int32)), (6, .int (nI k))]) hx hb dL_pay_39 rfl hl (by decide) rfl (fun ls hl => ?_)
        refine lv_iload_n hx hb dL_pay_40 rfl (lv_at hl 2 rfl) ?_
        refine lv_aload_n hx hb dL_pay_41 rfl (lv_at hl 1 rfl) ?_
        refine lv_iload hx hb dL_pay_42 (lv_at hl 6 rfl) ?_
        refine lv_iconst (v := (4 : Int32)) hx hb dL_pay_44 (by decide) ?_
        refine xs_Vi (As := [.int (nI k), .int (4 : Int32)]) (rest := [.int (sumN (S 8) k)]) (wc := [(x, .inr (5, [.ref tx, .ref ho, .ref ca, .ref tr, .ref hi, .ref sl, .ref sv]))] ++ hw K ho hoa S ++ cw K ca caa u9_35) (wr := (List.filterMap (fun i => ([(x, .inr (5, [.ref tx, .ref ho, .ref ca, .ref tr, .ref hi, .ref sl, .ref sv]))] ++ hw K ho hoa S ++ cw K ca caa u9_35 : va_W)[i]?) ([] : List Nat))) ⟨hx, hb, hml, hown, hts⟩ (c_X5_player_4 l K x tx ho ca tr hi sl sv k hoa S caa u9_35 R hR0 (by omega) P hP0 (by omega) (by first | assumption | omega) (by first | assumption | omega) H.size) (cwV 2 hts gL_pay_X5_player rfl rfl rfl (by decide +kernel) ⟨Nat.le_of_ble_eq_true rfl, Nat.le_of_ble_eq_true rfl⟩) hK hP hD hS hZ hA [0, 1, 2, 3, 4, 5, 6, 7, 8, 9, 10, 11, 12, 13, 14, 15] [] [0, 1, 2, 3, 4, 5, 6, 7, 8, 9, 10, 11, 12, 13, 14, 15] rfl rfl rfl (fun u9_45 => [(x, .inr (5, [.ref tx, .ref ho, .ref ca, .ref tr, .ref hi, .ref sl, .ref sv]))] ++ hw K ho hoa S ++ cw K ca caa u9_45) (fun _ => rfl) 0 5 rfl rfl rfl rfl hl.1 rfl (Nat.le_of_ble_eq_true rfl) (by show (((210 * k) + 4) + 4) + 4 ≤ 2200; omega) (by show (((1260 * k) + 24) + 24) + 24 ≤ 13200; omega) dL_pay_45 (fun r45 u9_45 H locs hq45 hP hD hS => ?_)
        have hP : va_P K.1 vwCl ([(x, .inr (5, [.ref tx, .ref ho, .ref ca, .ref tr, .ref hi, .ref sl, .ref sv]))] ++ hw K ho hoa S ++ cw K ca caa u9_45) H := hP
        have hD : va_D A ([(x, .inr (5, [.ref tx, .ref ho, .ref ca, .ref tr, .ref hi, .ref sl, .ref sv]))] ++ hw K ho hoa S ++ cw K ca caa u9_45) := hD
        subst hq45
        refine lv_iadd hx hb dL_pay_48 ?_
        refine lv_istore_n (lv' := [(2, .int ((sumN (S 8) k) + (S 8 k))), (1, .int ((sumN (S 5) k) + (S 5 k))), (0, .ref x), (3, .int (tmS S R k)), (4, .int (bfr S P k)), (5, .int (1 : Int32)), (6, .int (nI k))]) hx hb dL_pay_49 rfl hl (by decide) rfl (fun ls hl => ?_)
        refine lv_iconst (v := (0 : Int32)) hx hb dL_pay_50 (by decide) ?_
        refine lv_istore (lv' := [(7, .int (0 : Int32)), (2, .int ((sumN (S 8) k) + (S 8 k))), (1, .int ((sumN (S 5) k) + (S 5 k))), (0, .ref x), (3, .int (tmS S R k)), (4, .int (bfr S P k)), (5, .int (1 : Int32)), (6, .int (nI k))]) hx hb dL_pay_51 hl (by decide) rfl (fun ls hl => ?_)
        have lp53 : ∀ (n9 : Nat) (j : Nat) (E : HV) (H : Heap) (locs : List Loc) (ls : Array Slot), R - j < n9 → (j ≤ R) → va_P K.1 vwCl ([(x, .inr (5, [.ref tx, .ref ho, .ref ca, .ref tr, .ref hi, .ref sl, .ref sv]))] ++ hw K ho hoa S ++ cw K ca caa E) H → va_D A ([(x, .inr (5, [.ref tx, .ref ho, .ref ca, .ref tr, .ref hi, .ref sl, .ref sv]))] ++ hw K ho hoa S ++ cw K ca caa E) → va_S A s9.heap H locs → lv_has ls 10 [(0, .ref x), (1, .int ((sumN (S 5) k) + (S 5 k))), (2, .int ((sumN (S 8) k) + (S 8 k))), (3, .int (tmS S R k + tmP S k j)), (4, .int (bfr S P k)), (5, .int (1 : Int32)), (6, .int (nI k)), (7, .int (nI j))] → W p9 l e9 rm_L_pay s9 m9 av9 below9 meth9 c9 H locs (210 * k + 12 + 24 * j) (1260 * k + 72 + 144 * j) Q9 (F0 m9 53 ls []) := by
          intro n9
          induction n9 with
          | zero => intro j E H locs ls hmu hj hP hD hS hl; exact absurd hmu (Nat.not_lt_zero _)
          | succ n9 ih53 =>
            intro j E H locs ls hmu hj hP hD hS hl
            refine lv_iload hx hb dL_pay_53 (lv_at hl 7 rfl) ?_
            refine lv_aload_n hx hb dL_pay_55 rfl (lv_at hl 0 rfl) ?_
            refine lv_iconst (v := (0 : Int32)) hx hb dL_pay_56 (by decide) ?_
            refine xs_Vi (As := [.int (0 : Int32)]) (rest := [.int (nI j)]) (wc := [(x, .inr (5, [.ref tx, .ref ho, .ref ca, .ref tr, .ref hi, .ref sl, .ref sv]))] ++ hw K ho hoa S) (wr := (List.filterMap (fun i => ([(x, .inr (5, [.ref tx, .ref ho, .ref ca, .ref tr, .ref hi, .ref sl, .ref sv]))] ++ hw K ho hoa S ++ cw K ca caa E : va_W)[i]?) ([12, 13, 14, 15] : List Nat))) ⟨hx, hb, hml, hown, hts⟩ (c_X5_about_0 l K x tx ho ca tr hi sl sv hoa S P hP0 (by omega) (by first | assumption | omega) (by first | assumption | omega) H.size) (cwV 1 hts gL_pay_X5_about rfl rfl rfl (by decide +kernel) ⟨Nat.le_of_ble_eq_true rfl, Nat.le_of_ble_eq_true rfl⟩) hK hP hD hS hZ hA [0, 1, 2, 3, 4, 5, 6, 7, 8, 9, 10, 11] [12, 13, 14, 15] [4, 5, 6, 7, 8, 9, 10, 11, 12, 13, 14, 15, 0, 1, 2, 3] rfl rfl rfl (fun _u => [(x, .inr (5, [.ref tx, .ref ho, .ref ca, .ref tr, .ref hi, .ref sl, .ref sv]))] ++ hw K ho hoa S ++ cw K ca caa E) (fun _ => rfl) 0 5 rfl rfl rfl rfl hl.1 rfl (Nat.le_of_ble_eq_true rfl) (by show (210 * k + 12 + 24 * j) + 4 ≤ 2200; omega) (by show (1260 * k + 72 + 144 * j) + 24 ≤ 13200; omega) dL_pay_57 (fun r57 _ H locs hq57 hP hD hS => ?_)
            have hP : va_P K.1 vwCl ([(x, .inr (5, [.ref tx, .ref ho, .ref ca, .ref tr, .ref hi, .ref sl, .ref sv]))] ++ hw K ho hoa S ++ cw K ca caa E) H := hP
            have hD : va_D A ([(x, .inr (5, [.ref tx, .ref ho, .ref ca, .ref tr, .ref hi, .ref sl, .ref sv]))] ++ hw K ho hoa S ++ cw K ca caa E) := hD
            subst hq57
            refine xn_icmp_ge (tgt := 167) hx hb j R rfl hR0 (by omega) (by omega) dL_pay_60 (by decide) (fun c_60 => ?_) (fun c_60 => ?_)
            · skip
              refine W.widen (k := (210 * k + 160)) (n := (1260 * k + 960)) (by show ((210 * k + 12 + 24 * j) + 4) ≤ (210 * k + 160); omega) (by show ((1260 * k + 72 + 144 * j) + 24) ≤ (1260 * k + 960); omega) ?_
              have hjR : j = R := by omega
              rw [hjR] at hl
              refine lv_aload_n hx hb dL_pay_167 rfl (lv_at hl 0 rfl) ?_
              refine lv_iload hx hb dL_pay_168 (lv_at hl 6 rfl) ?_
              refine xs_Vi (As := [.int (nI k)]) (rest := []) (wc := [(x, .inr (5, [.ref tx, .ref ho, .ref ca, .ref tr, .ref hi, .ref sl, .ref sv]))] ++ hw K ho hoa S) (wr := (List.filterMap (fun i => ([(x, .inr (5, [.ref tx, .ref ho, .ref ca, .ref tr, .ref hi, .ref sl, .ref sv]))] ++ hw K ho hoa S ++ cw K ca caa E : va_W)[i]?) ([12, 13, 14, 15] : List Nat))) ⟨hx, hb, hml, hown, hts⟩ (c_X5_ranked_n l K x tx ho ca tr hi sl sv k hoa S P hP0 (by omega) (by first | assumption | omega) (by first | assumption | omega) H.size) (cwV 1 hts gL_pay_X5_ranked rfl rfl rfl (by decide +kernel) ⟨Nat.le_of_ble_eq_true rfl, Nat.le_of_ble_eq_true rfl⟩) hK hP hD hS hZ hA [0, 1, 2, 3, 4, 5, 6, 7, 8, 9, 10, 11] [12, 13, 14, 15] [4, 5, 6, 7, 8, 9, 10, 11, 12, 13, 14, 15, 0, 1, 2, 3] rfl rfl rfl (fun _u => [(x, .inr (5, [.ref tx, .ref ho, .ref ca, .ref tr, .ref hi, .ref sl, .ref sv]))] ++ hw K ho hoa S ++ cw K ca caa E) (fun _ => rfl) 0 5 rfl rfl rfl rfl hl.1 rfl (Nat.le_of_ble_eq_true rfl) (by show (210 * k + 160) + 4 ≤ 2200; omega) (by show (1260 * k + 960) + 24 ≤ 13200; omega) dL_pay_170 (fun r170 _ H locs hq170 hP hD hS => ?_)
              have hP : va_P K.1 vwCl ([(x, .inr (5, [.ref tx, .ref ho, .ref ca, .ref tr, .ref hi, .ref sl, .ref sv]))] ++ hw K ho hoa S ++ cw K ca caa E) H := hP
              have hD : va_D A ([(x, .inr (5, [.ref tx, .ref ho, .ref ca, .ref tr, .ref hi, .ref sl, .ref sv]))] ++ hw K ho hoa S ++ cw K ca caa E) := hD
              subst hq170
              have hqp := (rkq_spec (S := S) c_22).1
              rw [show fstF (fun p => decide (plc S p P = nI k)) 0 P = nI (rkq S P k) from rk_at hP0b c_22]
              refine lv_istore (lv' := [(7, .int (nI (rkq S P k))), (0, .ref x), (1, .int ((sumN (S 5) k) + (S 5 k))), (2, .int ((sumN (S 8) k) + (S 8 k))), (3, .int (tmS S R k + tmP S k R)), (4, .int (bfr S P k)), (5, .int (1 : Int32)), (6, .int (nI k))]) hx hb dL_pay_173 hl (by decide) rfl (fun ls hl => ?_)
              refine lv_iload hx hb dL_pay_175 (lv_at hl 6 rfl) ?_
              refine lv_if_eq (tgt := 236) hx hb dL_pay_177 (by decide) (fun c_177 => ?_) (fun c_177 => ?_)
              · exact absurd c_177 (by decide)
              refine lv_iload hx hb dL_pay_180 (lv_at hl 0 rfl) ?_
              refine xn_if_lt (tgt := 236) hx hb (rkq S P k) rfl (by omega) dL_pay_182 (by decide) ?_
              have jn232 : ∀ (E : HV) (H : Heap) (locs : List Loc) (ls : Array Slot), va_P K.1 vwCl ([(x, .inr (5, [.ref tx, .ref ho, .ref ca, .ref tr, .ref hi, .ref sl, .ref sv]))] ++ hw K ho hoa S ++ cw K ca caa E) H → va_D A ([(x, .inr (5, [.ref tx, .ref ho, .ref ca, .ref tr, .ref hi, .ref sl, .ref sv]))] ++ hw K ho hoa S ++ cw K ca caa E) → va_S A s9.heap H locs → lv_has ls 10 [(0, .ref x), (1, .int ((sumN (S 5) k) + (S 5 k))), (2, .int ((sumN (S 8) k) + (S 8 k))), (3, .int (tmS S R k + tmP S k R)), (4, .int (bfr S P k)), (5, .int (1 : Int32)), (6, .int (nI k)), (7, .int (nI (rkq S P k)))] → W p9 l e9 rm_L_pay s9 m9 av9 below9 meth9 c9 H locs (210 * k + 180) (1260 * k + 1080) Q9 (F0 m9 232 ls []) := by
                intro E H locs ls hP hD hS hl
                refine lv_iconst (v := (1 : Int32)) hx hb dL_pay_232 (by decide) ?_
                refine lv_goto (tgt := 237) hx hb dL_pay_233 (by decide) ?_
                refine lv_istore (lv' := [(5, .int (1 : Int32)), (0, .ref x), (1, .int ((sumN (S 5) k) + (S 5 k))), (2, .int ((sumN (S 8) k) + (S 8 k))), (3, .int (tmS S R k + tmP S k R)), (4, .int (bfr S P k)), (6, .int (nI k)), (7, .int (nI (rkq S P k)))]) hx hb dL_pay_237 hl (by decide) rfl (fun ls hl => ?_)
                refine lv_iload hx hb dL_pay_239 (lv_at hl 7 rfl) ?_
                refine lv_istore (lv' := [(4, .int (nI (rkq S P k))), (5, .int (1 : Int32)), (0, .ref x), (1, .int ((sumN (S 5) k) + (S 5 k))), (2, .int ((sumN (S 8) k) + (S 8 k))), (3, .int (tmS S R k + tmP S k R)), (6, .int (nI k)), (7, .int (nI (rkq S P k)))]) hx hb dL_pay_241 hl (by decide) rfl (fun ls hl => ?_)
                refine lv_iload hx hb dL_pay_243 (lv_at hl 1 rfl) ?_
                refine lv_if_eq (tgt := 304) hx hb dL_pay_245 (by decide) (fun c_245 => ?_) (fun c_245 => ?_)
                · exact absurd c_245 (by decide)
                have jn268 : ∀ (E : HV) (H : Heap) (locs : List Loc) (ls : Array Slot), va_P K.1 vwCl ([(x, .inr (5, [.ref tx, .ref ho, .ref ca, .ref tr, .ref hi, .ref sl, .ref sv]))] ++ hw K ho hoa S ++ cw K ca caa E) H → va_D A ([(x, .inr (5, [.ref tx, .ref ho, .ref ca, .ref tr, .ref hi, .ref sl, .ref sv]))] ++ hw K ho hoa S ++ cw K ca caa E) → va_S A s9.heap H locs → lv_has ls 10 [(0, .ref x), (1, .int ((sumN (S 5) k) + (S 5 k))), (2, .int ((sumN (S 8) k) + (S 8 k))), (3, .int (tmS S R k + tmP S k R)), (4, .int (nI (rkq S P k))), (5, .int (1 : Int32)), (6, .int (nI k)), (7, .int (nI (rkq S P k)))] → W p9 l e9 rm_L_pay s9 m9 av9 below9 meth9 c9 H locs (210 * k + 188) (1260 * k + 1128) Q9 (F0 m9 268 ls []) := by
                  intro E H locs ls hP hD hS hl
                  refine lv_aload_n hx hb dL_pay_268 rfl (lv_at hl 0 rfl) ?_
                  refine lv_iload hx hb dL_pay_269 (lv_at hl 6 rfl) ?_
                  refine lv_iconst (v := (1 : Int32)) hx hb dL_pay_271 (by decide) ?_
                  refine xs_Vi (As := [.int (nI k), .int (1 : Int32)]) (rest := []) (wc := [(x, .inr (5, [.ref tx, .ref ho, .ref ca, .ref tr, .ref hi, .ref sl, .ref sv]))] ++ hw K ho hoa S ++ cw K ca caa E) (wr := (List.filterMap (fun i => ([(x, .inr (5, [.ref tx, .ref ho, .ref ca, .ref tr, .ref hi, .ref sl, .ref sv]))] ++ hw K ho hoa S ++ cw K ca caa E : va_W)[i]?) ([] : List Nat))) ⟨hx, hb, hml, hown, hts⟩ (c_X5_player_1 l K x tx ho ca tr hi sl sv k hoa S caa E R hR0 (by omega) P hP0 (by omega) (by first | assumption | omega) (by first | assumption | omega) H.size) (cwV 2 hts gL_pay_X5_player rfl rfl rfl (by decide +kernel) ⟨Nat.le_of_ble_eq_true rfl, Nat.le_of_ble_eq_true rfl⟩) hK hP hD hS hZ hA [0, 1, 2, 3, 4, 5, 6, 7, 8, 9, 10, 11, 12, 13, 14, 15] [] [0, 1, 2, 3, 4, 5, 6, 7, 8, 9, 10, 11, 12, 13, 14, 15] rfl rfl rfl (fun u9_272 => [(x, .inr (5, [.ref tx, .ref ho, .ref ca, .ref tr, .ref hi, .ref sl, .ref sv]))] ++ hw K ho hoa S ++ cw K ca caa u9_272) (fun _ => rfl) 0 5 rfl rfl rfl rfl hl.1 rfl (Nat.le_of_ble_eq_true rfl) (by show (210 * k + 188) + 4 ≤ 2200; omega) (by show (1260 * k + 1128) + 24 ≤ 13200; omega) dL_pay_272 (fun r272 u9_272 H locs hq272 hP hD hS => ?_)
                  have hP : va_P K.1 vwCl ([(x, .inr (5, [.ref tx, .ref ho, .ref ca, .ref tr, .ref hi, .ref sl, .ref sv]))] ++ hw K ho hoa S ++ cw K ca caa u9_272) H := hP
                  have hD : va_D A ([(x, .inr (5, [.ref tx, .ref ho, .ref ca, .ref tr, .ref hi, .ref sl, .ref sv]))] ++ hw K ho hoa S ++ cw K ca caa u9_272) := hD
                  subst hq272
                  refine lv_aload_n hx hb dL_pay_275 rfl (lv_at hl 0 rfl) ?_
                  refine lv_iload hx hb dL_pay_276 (lv_at hl 6 rfl) ?_
                  refine lv_iconst (v := (4 : Int32)) hx hb dL_pay_278 (by decide) ?_
                  refine xs_Vi (As := [.int (nI k), .int (4 : Int32)]) (rest := [.int (S 6 k)]) (wc := [(x, .inr (5, [.ref tx, .ref ho, .ref ca, .ref tr, .ref hi, .ref sl, .ref sv]))] ++ hw K ho hoa S ++ cw K ca caa u9_272) (wr := (List.filterMap (fun i => ([(x, .inr (5, [.ref tx, .ref ho, .ref ca, .ref tr, .ref hi, .ref sl, .ref sv]))] ++ hw K ho hoa S ++ cw K ca caa u9_272 : va_W)[i]?) ([] : List Nat))) ⟨hx, hb, hml, hown, hts⟩ (c_X5_player_4 l K x tx ho ca tr hi sl sv k hoa S caa u9_272 R hR0 (by omega) P hP0 (by omega) (by first | assumption | omega) (by first | assumption | omega) H.size) (cwV 2 hts gL_pay_X5_player rfl rfl rfl (by decide +kernel) ⟨Nat.le_of_ble_eq_true rfl, Nat.le_of_ble_eq_true rfl⟩) hK hP hD hS hZ hA [0, 1, 2, 3, 4, 5, 6, 7, 8, 9, 10, 11, 12, 13, 14, 15] [] [0, 1, 2, 3, 4, 5, 6, 7, 8, 9, 10, 11, 12, 13, 14, 15] rfl rfl rfl (fun u9_279 => [(x, .inr (5, [.ref tx, .ref ho, .ref ca, .ref tr, .ref hi, .ref sl, .ref sv]))] ++ hw K ho hoa S ++ cw K ca caa u9_279) (fun _ => rfl) 0 5 rfl rfl rfl rfl hl.1 rfl (Nat.le_of_ble_eq_true rfl) (by show ((210 * k + 188) + 4) + 4 ≤ 2200; omega) (by show ((1260 * k + 1128) + 24) + 24 ≤ 13200; omega) dL_pay_279 (fun r279 u9_279 H locs hq279 hP hD hS => ?_)
                  have hP : va_P K.1 vwCl ([(x, .inr (5, [.ref tx, .ref ho, .ref ca, .ref tr, .ref hi, .ref sl, .ref sv]))] ++ hw K ho hoa S ++ cw K ca caa u9_279) H := hP
                  have hD : va_D A ([(x, .inr (5, [.ref tx, .ref ho, .ref ca, .ref tr, .ref hi, .ref sl, .ref sv]))] ++ hw K ho hoa S ++ cw K ca caa u9_279) := hD
                  subst hq279
                  refine lv_icmp_gt (tgt := 304) hx hb dL_pay_282 (by decide) (fun c_282 => ?_) (fun c_282 => ?_)
                  · exact absurd (py_row hI hB k) (Int32.not_le.mpr c_282)
                  · skip
                    have c_282n := Int32.not_lt.mp c_282
                    refine lv_aload_n hx hb dL_pay_285 rfl (lv_at hl 0 rfl) ?_
                    refine lv_iload hx hb dL_pay_286 (lv_at hl 6 rfl) ?_
                    refine lv_iconst (v := (4 : Int32)) hx hb dL_pay_288 (by decide) ?_
                    refine xs_Vi (As := [.int (nI k), .int (4 : Int32)]) (rest := []) (wc := [(x, .inr (5, [.ref tx, .ref ho, .ref ca, .ref tr, .ref hi, .ref sl, .ref sv]))] ++ hw K ho hoa S ++ cw K ca caa u9_279) (wr := (List.filterMap (fun i => ([(x, .inr (5, [.ref tx, .ref ho, .ref ca, .ref tr, .ref hi, .ref sl, .ref sv]))] ++ hw K ho hoa S ++ cw K ca caa u9_279 : va_W)[i]?) ([] : List Nat))) ⟨hx, hb, hml, hown, hts⟩ (c_X5_player_4 l K x tx ho ca tr hi sl sv k hoa S caa u9_279 R hR0 (by omega) P hP0 (by omega) (by first | assumption | omega) (by first | assumption | omega) H.size) (cwV 2 hts gL_pay_X5_player rfl rfl rfl (by decide +kernel) ⟨Nat.le_of_ble_eq_true rfl, Nat.le_of_ble_eq_true rfl⟩) hK hP hD hS hZ hA [0, 1, 2, 3, 4, 5, 6, 7, 8, 9, 10, 11, 12, 13, 14, 15] [] [0, 1, 2, 3, 4, 5, 6, 7, 8, 9, 10, 11, 12, 13, 14, 15] rfl rfl rfl (fun u9_289 => [(x, .inr (5, [.ref tx, .ref ho, .ref ca, .ref tr, .ref hi, .ref sl, .ref sv]))] ++ hw K ho hoa S ++ cw K ca caa u9_289) (fun _ => rfl) 0 5 rfl rfl rfl rfl hl.1 rfl (Nat.le_of_ble_eq_true rfl) (by show (((210 * k + 188) + 4) + 4) + 4 ≤ 2200; omega) (by show (((1260 * k + 1128) + 24) + 24) + 24 ≤ 13200; omega) dL_pay_289 (fun r289 u9_289 H locs hq289 hP hD hS => ?_)
                    have hP : va_P K.1 vwCl ([(x, .inr (5, [.ref tx, .ref ho, .ref ca, .ref tr, .ref hi, .ref sl, .ref sv]))] ++ hw K ho hoa S ++ cw K ca caa u9_289) H := hP
                    have hD : va_D A ([(x, .inr (5, [.ref tx, .ref ho, .ref ca, .ref tr, .ref hi, .ref sl, .ref sv]))] ++ hw K ho hoa S ++ cw K ca caa u9_289) := hD
                    subst hq289
                    refine lv_aload_n hx hb dL_pay_292 rfl (lv_at hl 0 rfl) ?_
                    refine lv_iconst (v := (3 : Int32)) hx hb dL_pay_293 (by decide) ?_
                    refine xs_Vi (As := [.int (3 : Int32)]) (rest := [.int (S 8 k)]) (wc := [(x, .inr (5, [.ref tx, .ref ho, .ref ca, .ref tr, .ref hi, .ref sl, .ref sv]))] ++ hw K ho hoa S) (wr := (List.filterMap (fun i => ([(x, .inr (5, [.ref tx, .ref ho, .ref ca, .ref tr, .ref hi, .ref sl, .ref sv]))] ++ hw K ho hoa S ++ cw K ca caa u9_289 : va_W)[i]?) ([12, 13, 14, 15] : List Nat))) ⟨hx, hb, hml, hown, hts⟩ (c_X5_about_3 l K x tx ho ca tr hi sl sv hoa S P hP0 (by omega) (by first | assumption | omega) (by first | assumption | omega) H.size) (cwV 1 hts gL_pay_X5_about rfl rfl rfl (by decide +kernel) ⟨Nat.le_of_ble_eq_true rfl, Nat.le_of_ble_eq_true rfl⟩) hK hP hD hS hZ hA [0, 1, 2, 3, 4, 5, 6, 7, 8, 9, 10, 11] [12, 13, 14, 15] [4, 5, 6, 7, 8, 9, 10, 11, 12, 13, 14, 15, 0, 1, 2, 3] rfl rfl rfl (fun _u => [(x, .inr (5, [.ref tx, .ref ho, .ref ca, .ref tr, .ref hi, .ref sl, .ref sv]))] ++ hw K ho hoa S ++ cw K ca caa u9_289) (fun _ => rfl) 0 5 rfl rfl rfl rfl hl.1 rfl (Nat.le_of_ble_eq_true rfl) (by show ((((210 * k + 188) + 4) + 4) + 4) + 4 ≤ 2200; omega) (by show ((((1260 * k + 1128) + 24) + 24) + 24) + 24 ≤ 13200; omega) dL_pay_294 (fun r294 _ H locs hq294 hP hD hS => ?_)
                    have hP : va_P K.1 vwCl ([(x, .inr (5, [.ref tx, .ref ho, .ref ca, .ref tr, .ref hi, .ref sl, .ref sv]))] ++ hw K ho hoa S ++ cw K ca caa u9_289) H := hP
                    have hD : va_D A ([(x, .inr (5, [.ref tx, .ref ho, .ref ca, .ref tr, .ref hi, .ref sl, .ref sv]))] ++ hw K ho hoa S ++ cw K ca caa u9_289) := hD
                    subst hq294
                    refine lv_icmp_gt (tgt := 304) hx hb dL_pay_297 (by decide) (fun c_297 => ?_) (fun c_297 => ?_)
                    · exact absurd (py_sh hI hB k) (Int32.not_le.mpr c_297)
                    · skip
                      have c_297n := Int32.not_lt.mp c_297
                      refine lv_iconst (v := (1 : Int32)) hx hb dL_pay_300 (by decide) ?_
                      refine lv_goto (tgt := 305) hx hb dL_pay_301 (by decide) ?_
                      refine lv_istore (lv' := [(5, .int (1 : Int32)), (0, .ref x), (1, .int ((sumN (S 5) k) + (S 5 k))), (2, .int ((sumN (S 8) k) + (S 8 k))), (3, .int (tmS S R k + tmP S k R)), (4, .int (nI (rkq S P k))), (6, .int (nI k)), (7, .int (nI (rkq S P k)))]) hx hb dL_pay_305 hl (by decide) rfl (fun ls hl => ?_)
                      refine lv_iinc (v := nI (k + 1)) (lv' := [(6, .int (nI (k + 1))), (5, .int (1 : Int32)), (0, .ref x), (1, .int ((sumN (S 5) k) + (S 5 k))), (2, .int ((sumN (S 8) k) + (S 8 k))), (3, .int (tmS S R k + tmP S k R)), (4, .int (nI (rkq S P k))), (7, .int (nI (rkq S P k)))]) hx hb dL_pay_307 hl (k := 6) rfl (nI_1 _) (by decide) rfl (fun ls hl => ?_)
                      refine lv_goto (tgt := 15) hx hb dL_pay_310 (by decide) ?_
                      refine W.widen (k := (210 * (k + 1))) (n := (1260 * (k + 1))) (by show (((((210 * k + 188) + 4) + 4) + 4) + 4) ≤ (210 * (k + 1)); omega) (by show (((((1260 * k + 1128) + 24) + 24) + 24) + 24) ≤ (1260 * (k + 1)); omega) ?_
                      exact ih15 (k + 1) u9_289 _ _ _ (by omega) (by first | omega | assumption | first | rfl | (simp [c_22, c_60, c_282, c_282n, c_297, c_297n]; done) | omega) hP hD hS (lv_cons (lv_at hl 2 rfl) (lv_cons (lv_is (lv_at hl 3 rfl) (show (sumN (S 5) k) + (S 5 k) = sumN (S 5) (k + 1) by first | rfl | (simp [c_22, c_60, c_282, c_282n, c_297, c_297n]; done) | omega)) (lv_cons (lv_is (lv_at hl 4 rfl) (show (sumN (S 8) k) + (S 8 k) = sumN (S 8) (k + 1) by first | rfl | (simp [c_22, c_60, c_282, c_282n, c_297, c_297n]; done) | omega)) (lv_cons (lv_is (lv_at hl 5 rfl) (show tmS S R k + tmP S k R = tmS S R (k + 1) by first | rfl | (simp [c_22, c_60, c_282, c_282n, c_297, c_297n]; done) | omega)) (lv_cons (lv_is (lv_at hl 6 rfl) (show nI (rkq S P k) = bfr S P (k + 1) by first | rfl | (simp [c_22, c_60, c_282, c_282n, c_297, c_297n]; done) | omega)) (lv_cons (lv_at hl 1 rfl) (lv_cons (lv_at hl 0 rfl) (lv_nil hl))))))))
                refine lv_aload_n hx hb dL_pay_248 rfl (lv_at hl 2 rfl) ?_
                refine lv_iload hx hb dL_pay_249 (lv_at hl 6 rfl) ?_
                refine lv_iconst (v := (2 : Int32)) hx hb dL_pay_251 (by decide) ?_
                refine xs_Vi (As := [.int (nI k), .int (2 : Int32)]) (rest := []) (wc := [(x, .inr (5, [.ref tx, .ref ho, .ref ca, .ref tr, .ref hi, .ref sl, .ref sv]))] ++ hw K ho hoa S ++ cw K ca caa E) (wr := (List.filterMap (fun i => ([(x, .inr (5, [.ref tx, .ref ho, .ref ca, .ref tr, .ref hi, .ref sl, .ref sv]))] ++ hw K ho hoa S ++ cw K ca caa E : va_W)[i]?) ([] : List Nat))) ⟨hx, hb, hml, hown, hts⟩ (c_X5_player_2 l K x tx ho ca tr hi sl sv k hoa S caa E R hR0 (by omega) P hP0 (by omega) (by first | assumption | omega) (by first | assumption | omega) H.size) (cwV 2 hts gL_pay_X5_player rfl rfl rfl (by decide +kernel) ⟨Nat.le_of_ble_eq_true rfl, Nat.le_of_ble_eq_true rfl⟩) hK hP hD hS hZ hA [0, 1, 2, 3, 4, 5, 6, 7, 8, 9, 10, 11, 12, 13, 14, 15] [] [0, 1, 2, 3, 4, 5, 6, 7, 8, 9, 10, 11, 12, 13, 14, 15] rfl rfl rfl (fun u9_252 => [(x, .inr (5, [.ref tx, .ref ho, .ref ca, .ref tr, .ref hi, .ref sl, .ref sv]))] ++ hw K ho hoa S ++ cw K ca caa u9_252) (fun _ => rfl) 0 5 rfl rfl rfl rfl hl.1 rfl (Nat.le_of_ble_eq_true rfl) (by show (210 * k + 180) + 4 ≤ 2200; omega) (by show (1260 * k + 1080) + 24 ≤ 13200; omega) dL_pay_252 (fun r252 u9_252 H locs hq252 hP hD hS => ?_)
                have hP : va_P K.1 vwCl ([(x, .inr (5, [.ref tx, .ref ho, .ref ca, .ref tr, .ref hi, .ref sl, .ref sv]))] ++ hw K ho hoa S ++ cw K ca caa u9_252) H := hP
                have hD : va_D A ([(x, .inr (5, [.ref tx, .ref ho, .ref ca, .ref tr, .ref hi, .ref sl, .ref sv]))] ++ hw K ho hoa S ++ cw K ca caa u9_252) := hD
                subst hq252
                refine lv_if_eq (tgt := 268) hx hb dL_pay_255 (by decide) (fun c_255 => ?_) (fun c_255 => ?_)
                · skip
                  refine W.widen (k := (210 * k + 188)) (n := (1260 * k + 1128)) (by show ((210 * k + 180) + 4) ≤ (210 * k + 188); omega) (by show ((1260 * k + 1080) + 24) ≤ (1260 * k + 1128); omega) ?_
                  exact jn268 u9_252 _ _ _ hP hD hS (lv_cons (lv_at hl 2 rfl) (lv_cons (lv_at hl 3 rfl) (lv_cons (lv_at hl 4 rfl) (lv_cons (lv_at hl 5 rfl) (lv_cons (lv_at hl 0 rfl) (lv_cons (lv_at hl 1 rfl) (lv_cons (lv_at hl 6 rfl) (lv_cons (lv_at hl 7 rfl) (lv_nil hl)))))))))
                · skip
                  refine lv_aload_n hx hb dL_pay_258 rfl (lv_at hl 2 rfl) ?_
                  refine lv_iload hx hb dL_pay_259 (lv_at hl 6 rfl) ?_
                  refine lv_iconst (v := (3 : Int32)) hx hb dL_pay_261 (by decide) ?_
                  refine xs_Vi (As := [.int (nI k), .int (3 : Int32)]) (rest := []) (wc := [(x, .inr (5, [.ref tx, .ref ho, .ref ca, .ref tr, .ref hi, .ref sl, .ref sv]))] ++ hw K ho hoa S ++ cw K ca caa u9_252) (wr := (List.filterMap (fun i => ([(x, .inr (5, [.ref tx, .ref ho, .ref ca, .ref tr, .ref hi, .ref sl, .ref sv]))] ++ hw K ho hoa S ++ cw K ca caa u9_252 : va_W)[i]?) ([] : List Nat))) ⟨hx, hb, hml, hown, hts⟩ (c_X5_player_3 l K x tx ho ca tr hi sl sv k hoa S caa u9_252 R hR0 (by omega) P hP0 (by omega) (by first | assumption | omega) (by first | assumption | omega) H.size) (cwV 2 hts gL_pay_X5_player rfl rfl rfl (by decide +kernel) ⟨Nat.le_of_ble_eq_true rfl, Nat.le_of_ble_eq_true rfl⟩) hK hP hD hS hZ hA [0, 1, 2, 3, 4, 5, 6, 7, 8, 9, 10, 11, 12, 13, 14, 15] [] [0, 1, 2, 3, 4, 5, 6, 7, 8, 9, 10, 11, 12, 13, 14, 15] rfl rfl rfl (fun u9_262 => [(x, .inr (5, [.ref tx, .ref ho, .ref ca, .ref tr, .ref hi, .ref sl, .ref sv]))] ++ hw K ho hoa S ++ cw K ca caa u9_262) (fun _ => rfl) 0 5 rfl rfl rfl rfl hl.1 rfl (Nat.le_of_ble_eq_true rfl) (by show ((210 * k + 180) + 4) + 4 ≤ 2200; omega) (by show ((1260 * k + 1080) + 24) + 24 ≤ 13200; omega) dL_pay_262 (fun r262 u9_262 H locs hq262 hP hD hS => ?_)
                  have hP : va_P K.1 vwCl ([(x, .inr (5, [.ref tx, .ref ho, .ref ca, .ref tr, .ref hi, .ref sl, .ref sv]))] ++ hw K ho hoa S ++ cw K ca caa u9_262) H := hP
                  have hD : va_D A ([(x, .inr (5, [.ref tx, .ref ho, .ref ca, .ref tr, .ref hi, .ref sl, .ref sv]))] ++ hw K ho hoa S ++ cw K ca caa u9_262) := hD
                  subst hq262
                  refine xb_if_ne (tgt := 304) hx hb dL_pay_265 (by decide) (fun c_265 => ?_) (fun c_265 => ?_)
                  · exact absurd (py_away hI hB c_265) c_255
                  · skip
                    refine W.widen (k := (210 * k + 188)) (n := (1260 * k + 1128)) (by show (((210 * k + 180) + 4) + 4) ≤ (210 * k + 188); omega) (by show (((1260 * k + 1080) + 24) + 24) ≤ (1260 * k + 1128); omega) ?_
                    exact jn268 u9_262 _ _ _ hP hD hS (lv_cons (lv_at hl 2 rfl) (lv_cons (lv_at hl 3 rfl) (lv_cons (lv_at hl 4 rfl) (lv_cons (lv_at hl 5 rfl) (lv_cons (lv_at hl 0 rfl) (lv_cons (lv_at hl 1 rfl) (lv_cons (lv_at hl 6 rfl) (lv_cons (lv_at hl 7 rfl) (lv_nil hl)))))))))
              refine lv_iload hx hb dL_pay_185 (lv_at hl 5 rfl) ?_
              refine lv_iconst (v := (-1 : Int32)) hx hb dL_pay_187 (by decide) ?_
              refine lv_icmp_eq (tgt := 232) hx hb dL_pay_188 (by decide) (fun c_188 => ?_) (fun c_188 => ?_)
              · skip
                refine W.widen (k := (210 * k + 180)) (n := (1260 * k + 1080)) (by show ((210 * k + 160) + 4) ≤ (210 * k + 180); omega) (by show ((1260 * k + 960) + 24) ≤ (1260 * k + 1080); omega) ?_
                exact jn232 E _ _ _ hP hD hS (lv_cons (lv_at hl 1 rfl) (lv_cons (lv_at hl 2 rfl) (lv_cons (lv_at hl 3 rfl) (lv_cons (lv_at hl 4 rfl) (lv_cons (lv_at hl 5 rfl) (lv_cons (lv_at hl 6 rfl) (lv_cons (lv_at hl 7 rfl) (lv_cons (lv_at hl 0 rfl) (lv_nil hl)))))))))
              · skip
                have hbf := bfr_s c_188 c_22
                have hbp := hbf.2.1
                refine lv_aload_n hx hb dL_pay_191 rfl (lv_at hl 1 rfl) ?_
                refine lv_iload hx hb dL_pay_192 (lv_at hl 5 rfl) ?_
                refine lv_iconst (v := (0 : Int32)) hx hb dL_pay_194 (by decide) ?_
                rw [show bfr S P k = nI (rkq S P (k - 1)) from hbf.1]
                refine xs_Vi (As := [.int (nI (rkq S P (k - 1))), .int (0 : Int32)]) (rest := []) (wc := [(x, .inr (5, [.ref tx, .ref ho, .ref ca, .ref tr, .ref hi, .ref sl, .ref sv]))] ++ hw K ho hoa S ++ cw K ca caa E) (wr := (List.filterMap (fun i => ([(x, .inr (5, [.ref tx, .ref ho, .ref ca, .ref tr, .ref hi, .ref sl, .ref sv]))] ++ hw K ho hoa S ++ cw K ca caa E : va_W)[i]?) ([] : List Nat))) ⟨hx, hb, hml, hown, hts⟩ (c_X5_player_0 l K x tx ho ca tr hi sl sv (rkq S P (k - 1)) hoa S caa E R hR0 (by omega) P hP0 (by omega) (by first | assumption | omega) (by first | assumption | omega) H.size) (cwV 2 hts gL_pay_X5_player rfl rfl rfl (by decide +kernel) ⟨Nat.le_of_ble_eq_true rfl, Nat.le_of_ble_eq_true rfl⟩) hK hP hD hS hZ hA [0, 1, 2, 3, 4, 5, 6, 7, 8, 9, 10, 11, 12, 13, 14, 15] [] [0, 1, 2, 3, 4, 5, 6, 7, 8, 9, 10, 11, 12, 13, 14, 15] rfl rfl rfl (fun u9_195 => [(x, .inr (5, [.ref tx, .ref ho, .ref ca, .ref tr, .ref hi, .ref sl, .ref sv]))] ++ hw K ho hoa S ++ cw K ca caa u9_195) (fun _ => rfl) 0 5 rfl rfl rfl rfl hl.1 rfl (Nat.le_of_ble_eq_true rfl) (by show ((210 * k + 160) + 4) + 4 ≤ 2200; omega) (by show ((1260 * k + 960) + 24) + 24 ≤ 13200; omega) dL_pay_195 (fun r195 u9_195 H locs hq195 hP hD hS => ?_)
                have hP : va_P K.1 vwCl ([(x, .inr (5, [.ref tx, .ref ho, .ref ca, .ref tr, .ref hi, .ref sl, .ref sv]))] ++ hw K ho hoa S ++ cw K ca caa u9_195) H := hP
                have hD : va_D A ([(x, .inr (5, [.ref tx, .ref ho, .ref ca, .ref tr, .ref hi, .ref sl, .ref sv]))] ++ hw K ho hoa S ++ cw K ca caa u9_195) := hD
                subst hq195
                refine lv_aload_n hx hb dL_pay_198 rfl (lv_at hl 1 rfl) ?_
                refine lv_iload hx hb dL_pay_199 (lv_at hl 0 rfl) ?_
                refine lv_iconst (v := (0 : Int32)) hx hb dL_pay_201 (by decide) ?_
                refine xs_Vi (As := [.int (nI (rkq S P k)), .int (0 : Int32)]) (rest := [.int (S 5 (rkq S P (k - 1)))]) (wc := [(x, .inr (5, [.ref tx, .ref ho, .ref ca, .ref tr, .ref hi, .ref sl, .ref sv]))] ++ hw K ho hoa S ++ cw K ca caa u9_195) (wr := (List.filterMap (fun i => ([(x, .inr (5, [.ref tx, .ref ho, .ref ca, .ref tr, .ref hi, .ref sl, .ref sv]))] ++ hw K ho hoa S ++ cw K ca caa u9_195 : va_W)[i]?) ([] : List Nat))) ⟨hx, hb, hml, hown, hts⟩ (c_X5_player_0 l K x tx ho ca tr hi sl sv (rkq S P k) hoa S caa u9_195 R hR0 (by omega) P hP0 (by omega) (by first | assumption | omega) (by first | assumption | omega) H.size) (cwV 2 hts gL_pay_X5_player rfl rfl rfl (by decide +kernel) ⟨Nat.le_of_ble_eq_true rfl, Nat.le_of_ble_eq_true rfl⟩) hK hP hD hS hZ hA [0, 1, 2, 3, 4, 5, 6, 7, 8, 9, 10, 11, 12, 13, 14, 15] [] [0, 1, 2, 3, 4, 5, 6, 7, 8, 9, 10, 11, 12, 13, 14, 15] rfl rfl rfl (fun u9_202 => [(x, .inr (5, [.ref tx, .ref ho, .ref ca, .ref tr, .ref hi, .ref sl, .ref sv]))] ++ hw K ho hoa S ++ cw K ca caa u9_202) (fun _ => rfl) 0 5 rfl rfl rfl rfl hl.1 rfl (Nat.le_of_ble_eq_true rfl) (by show (((210 * k + 160) + 4) + 4) + 4 ≤ 2200; omega) (by show (((1260 * k + 960) + 24) + 24) + 24 ≤ 13200; omega) dL_pay_202 (fun r202 u9_202 H locs hq202 hP hD hS => ?_)
                have hP : va_P K.1 vwCl ([(x, .inr (5, [.ref tx, .ref ho, .ref ca, .ref tr, .ref hi, .ref sl, .ref sv]))] ++ hw K ho hoa S ++ cw K ca caa u9_202) H := hP
                have hD : va_D A ([(x, .inr (5, [.ref tx, .ref ho, .ref ca, .ref tr, .ref hi, .ref sl, .ref sv]))] ++ hw K ho hoa S ++ cw K ca caa u9_202) := hD
                subst hq202
                refine lv_icmp_gt (tgt := 232) hx hb dL_pay_205 (by decide) (fun c_205 => ?_) (fun c_205 => ?_)
                · skip
                  have c_205n := Int32.not_le.mpr c_205
                  refine W.widen (k := (210 * k + 180)) (n := (1260 * k + 1080)) (by show ((((210 * k + 160) + 4) + 4) + 4) ≤ (210 * k + 180); omega) (by show ((((1260 * k + 960) + 24) + 24) + 24) ≤ (1260 * k + 1080); omega) ?_
                  exact jn232 u9_202 _ _ _ hP hD hS (lv_cons (lv_at hl 1 rfl) (lv_cons (lv_at hl 2 rfl) (lv_cons (lv_at hl 3 rfl) (lv_cons (lv_at hl 4 rfl) (lv_cons (lv_at hl 5 rfl) (lv_cons (lv_at hl 6 rfl) (lv_cons (lv_at hl 7 rfl) (lv_cons (lv_at hl 0 rfl) (lv_nil hl)))))))))
                · skip
                  have c_205n := Int32.not_lt.mp c_205
                  refine lv_aload_n hx hb dL_pay_208 rfl (lv_at hl 1 rfl) ?_
                  refine lv_iload hx hb dL_pay_209 (lv_at hl 5 rfl) ?_
                  refine lv_iconst (v := (0 : Int32)) hx hb dL_pay_211 (by decide) ?_
                  rw [show bfr S P k = nI (rkq S P (k - 1)) from hbf.1]
                  refine xs_Vi (As := [.int (nI (rkq S P (k - 1))), .int (0 : Int32)]) (rest := []) (wc := [(x, .inr (5, [.ref tx, .ref ho, .ref ca, .ref tr, .ref hi, .ref sl, .ref sv]))] ++ hw K ho hoa S ++ cw K ca caa u9_202) (wr := (List.filterMap (fun i => ([(x, .inr (5, [.ref tx, .ref ho, .ref ca, .ref tr, .ref hi, .ref sl, .ref sv]))] ++ hw K ho hoa S ++ cw K ca caa u9_202 : va_W)[i]?) ([] : List Nat))) ⟨hx, hb, hml, hown, hts⟩ (c_X5_player_0 l K x tx ho ca tr hi sl sv (rkq S P (k - 1)) hoa S caa u9_202 R hR0 (by omega) P hP0 (by omega) (by first | assumption | omega) (by first | assumption | omega) H.size) (cwV 2 hts gL_pay_X5_player rfl rfl rfl (by decide +kernel) ⟨Nat.le_of_ble_eq_true rfl, Nat.le_of_ble_eq_true rfl⟩) hK hP hD hS hZ hA [0, 1, 2, 3, 4, 5, 6, 7, 8, 9, 10, 11, 12, 13, 14, 15] [] [0, 1, 2, 3, 4, 5, 6, 7, 8, 9, 10, 11, 12, 13, 14, 15] rfl rfl rfl (fun u9_212 => [(x, .inr (5, [.ref tx, .ref ho, .ref ca, .ref tr, .ref hi, .ref sl, .ref sv]))] ++ hw K ho hoa S ++ cw K ca caa u9_212) (fun _ => rfl) 0 5 rfl rfl rfl rfl hl.1 rfl (Nat.le_of_ble_eq_true rfl) (by show ((((210 * k + 160) + 4) + 4) + 4) + 4 ≤ 2200; omega) (by show ((((1260 * k + 960) + 24) + 24) + 24) + 24 ≤ 13200; omega) dL_pay_212 (fun r212 u9_212 H locs hq212 hP hD hS => ?_)
                  have hP : va_P K.1 vwCl ([(x, .inr (5, [.ref tx, .ref ho, .ref ca, .ref tr, .ref hi, .ref sl, .ref sv]))] ++ hw K ho hoa S ++ cw K ca caa u9_212) H := hP
                  have hD : va_D A ([(x, .inr (5, [.ref tx, .ref ho, .ref ca, .ref tr, .ref hi, .ref sl, .ref sv]))] ++ hw K ho hoa S ++ cw K ca caa u9_212) := hD
                  subst hq212
                  refine lv_aload_n hx hb dL_pay_215 rfl (lv_at hl 1 rfl) ?_
                  refine lv_iload hx hb dL_pay_216 (lv_at hl 0 rfl) ?_
                  refine lv_iconst (v := (0 : Int32)) hx hb dL_pay_218 (by decide) ?_
                  refine xs_Vi (As := [.int (nI (rkq S P k)), .int (0 : Int32)]) (rest := [.int (S 5 (rkq S P (k - 1)))]) (wc := [(x, .inr (5, [.ref tx, .ref ho, .ref ca, .ref tr, .ref hi, .ref sl, .ref sv]))] ++ hw K ho hoa S ++ cw K ca caa u9_212) (wr := (List.filterMap (fun i => ([(x, .inr (5, [.ref tx, .ref ho, .ref ca, .ref tr, .ref hi, .ref sl, .ref sv]))] ++ hw K ho hoa S ++ cw K ca caa u9_212 : va_W)[i]?) ([] : List Nat))) ⟨hx, hb, hml, hown, hts⟩ (c_X5_player_0 l K x tx ho ca tr hi sl sv (rkq S P k) hoa S caa u9_212 R hR0 (by omega) P hP0 (by omega) (by first | assumption | omega) (by first | assumption | omega) H.size) (cwV 2 hts gL_pay_X5_player rfl rfl rfl (by decide +kernel) ⟨Nat.le_of_ble_eq_true rfl, Nat.le_of_ble_eq_true rfl⟩) hK hP hD hS hZ hA [0, 1, 2, 3, 4, 5, 6, 7, 8, 9, 10, 11, 12, 13, 14, 15] [] [0, 1, 2, 3, 4, 5, 6, 7, 8, 9, 10, 11, 12, 13, 14, 15] rfl rfl rfl (fun u9_219 => [(x, .inr (5, [.ref tx, .ref ho, .ref ca, .ref tr, .ref hi, .ref sl, .ref sv]))] ++ hw K ho hoa S ++ cw K ca caa u9_219) (fun _ => rfl) 0 5 rfl rfl rfl rfl hl.1 rfl (Nat.le_of_ble_eq_true rfl) (by show (((((210 * k + 160) + 4) + 4) + 4) + 4) + 4 ≤ 2200; omega) (by show (((((1260 * k + 960) + 24) + 24) + 24) + 24) + 24 ≤ 13200; omega) dL_pay_219 (fun r219 u9_219 H locs hq219 hP hD hS => ?_)
                  have hP : va_P K.1 vwCl ([(x, .inr (5, [.ref tx, .ref ho, .ref ca, .ref tr, .ref hi, .ref sl, .ref sv]))] ++ hw K ho hoa S ++ cw K ca caa u9_219) H := hP
                  have hD : va_D A ([(x, .inr (5, [.ref tx, .ref ho, .ref ca, .ref tr, .ref hi, .ref sl, .ref sv]))] ++ hw K ho hoa S ++ cw K ca caa u9_219) := hD
                  subst hq219
                  refine lv_icmp_ne (tgt := 236) hx hb dL_pay_222 (by decide) (fun c_222 => ?_) (fun c_222 => ?_)
                  · exact absurd (ahd_q hbf.2.2 c_205).1 c_222
                  · skip
                    refine lv_iload hx hb dL_pay_225 (lv_at hl 5 rfl) ?_
                    refine lv_iload hx hb dL_pay_227 (lv_at hl 0 rfl) ?_
                    refine xn_icmp_ge (tgt := 236) hx hb (rkq S P (k - 1)) (rkq S P k) hbf.1 rfl (by omega) (by omega) dL_pay_229 (by decide) (fun c_229 => ?_) (fun c_229 => ?_)
                    · exact absurd (ahd_q hbf.2.2 c_205).2 (Nat.not_lt.mpr c_229)
                    · skip
                      refine W.widen (k := (210 * k + 180)) (n := (1260 * k + 1080)) (by show ((((((210 * k + 160) + 4) + 4) + 4) + 4) + 4) ≤ (210 * k + 180); omega) (by show ((((((1260 * k + 960) + 24) + 24) + 24) + 24) + 24) ≤ (1260 * k + 1080); omega) ?_
                      exact jn232 u9_219 _ _ _ hP hD hS (lv_cons (lv_at hl 1 rfl) (lv_cons (lv_at hl 2 rfl) (lv_cons (lv_at hl 3 rfl) (lv_cons (lv_at hl 4 rfl) (lv_cons (lv_at hl 5 rfl) (lv_cons (lv_at hl 6 rfl) (lv_cons (lv_at hl 7 rfl) (lv_cons (lv_at hl 0 rfl) (lv_nil hl)))))))))
            · skip
              refine lv_iload hx hb dL_pay_63 (lv_at hl 5 rfl) ?_
              refine lv_if_eq (tgt := 167) hx hb dL_pay_65 (by decide) (fun c_65 => ?_) (fun c_65 => ?_)
              · exact absurd c_65 (by decide)
              refine lv_iload_n hx hb dL_pay_68 rfl (lv_at hl 3 rfl) ?_
              refine lv_aload_n hx hb dL_pay_69 rfl (lv_at hl 0 rfl) ?_
              refine lv_iload hx hb dL_pay_70 (lv_at hl 6 rfl) ?_
              refine lv_iload hx hb dL_pay_72 (lv_at hl 7 rfl) ?_
              refine lv_iconst (v := (1 : Int32)) hx hb dL_pay_74 (by decide) ?_
              refine xs_Vi (As := [.int (nI k), .int (nI j), .int (1 : Int32)]) (rest := [.int (tmS S R k + tmP S k j)]) (wc := [(x, .inr (5, [.ref tx, .ref ho, .ref ca, .ref tr, .ref hi, .ref sl, .ref sv]))] ++ hw K ho hoa S) (wr := (List.filterMap (fun i => ([(x, .inr (5, [.ref tx, .ref ho, .ref ca, .ref tr, .ref hi, .ref sl, .ref sv]))] ++ hw K ho hoa S ++ cw K ca caa E : va_W)[i]?) ([12, 13, 14, 15] : List Nat))) ⟨hx, hb, hml, hown, hts⟩ (c_X5_both_1 l K x tx ho ca tr hi sl sv k j hoa S R hR0 (by omega) P hP0 (by omega) (by first | assumption | omega) (by first | assumption | omega) (by first | assumption | omega) H.size) (cwV 3 hts gL_pay_X5_both rfl rfl rfl (by decide +kernel) ⟨Nat.le_of_ble_eq_true rfl, Nat.le_of_ble_eq_true rfl⟩) hK hP hD hS hZ hA [0, 1, 2, 3, 4, 5, 6, 7, 8, 9, 10, 11] [12, 13, 14, 15] [4, 5, 6, 7, 8, 9, 10, 11, 12, 13, 14, 15, 0, 1, 2, 3] rfl rfl rfl (fun _u => [(x, .inr (5, [.ref tx, .ref ho, .ref ca, .ref tr, .ref hi, .ref sl, .ref sv]))] ++ hw K ho hoa S ++ cw K ca caa E) (fun _ => rfl) 0 5 rfl rfl rfl rfl hl.1 rfl (Nat.le_of_ble_eq_true rfl) (by show ((210 * k + 12 + 24 * j) + 4) + 4 ≤ 2200; omega) (by show ((1260 * k + 72 + 144 * j) + 24) + 24 ≤ 13200; omega) dL_pay_75 (fun r75 _ H locs hq75 hP hD hS => ?_)
              have hP : va_P K.1 vwCl ([(x, .inr (5, [.ref tx, .ref ho, .ref ca, .ref tr, .ref hi, .ref sl, .ref sv]))] ++ hw K ho hoa S ++ cw K ca caa E) H := hP
              have hD : va_D A ([(x, .inr (5, [.ref tx, .ref ho, .ref ca, .ref tr, .ref hi, .ref sl, .ref sv]))] ++ hw K ho hoa S ++ cw K ca caa E) := hD
              subst hq75
              refine lv_iadd hx hb dL_pay_78 ?_
              refine lv_istore_n (lv' := [(3, .int ((tmS S R k + tmP S k j) + (S 4 (j * 10 + k)))), (0, .ref x), (1, .int ((sumN (S 5) k) + (S 5 k))), (2, .int ((sumN (S 8) k) + (S 8 k))), (4, .int (bfr S P k)), (5, .int (1 : Int32)), (6, .int (nI k)), (7, .int (nI j))]) hx hb dL_pay_79 rfl hl (by decide) rfl (fun ls hl => ?_)
              refine lv_aload_n hx hb dL_pay_80 rfl (lv_at hl 1 rfl) ?_
              refine lv_iload hx hb dL_pay_81 (lv_at hl 7 rfl) ?_
              refine lv_iconst (v := (1 : Int32)) hx hb dL_pay_83 (by decide) ?_
              refine xs_Vi (As := [.int (nI j), .int (1 : Int32)]) (rest := []) (wc := [(x, .inr (5, [.ref tx, .ref ho, .ref ca, .ref tr, .ref hi, .ref sl, .ref sv]))] ++ hw K ho hoa S ++ cw K ca caa E) (wr := (List.filterMap (fun i => ([(x, .inr (5, [.ref tx, .ref ho, .ref ca, .ref tr, .ref hi, .ref sl, .ref sv]))] ++ hw K ho hoa S ++ cw K ca caa E : va_W)[i]?) ([] : List Nat))) ⟨hx, hb, hml, hown, hts⟩ (c_X5_role_1 l K x tx ho ca tr hi sl sv j hoa S caa E R hR0 (by omega) P hP0 (by omega) (by first | assumption | omega) (by first | assumption | omega) H.size) (cwV 2 hts gL_pay_X5_role rfl rfl rfl (by decide +kernel) ⟨Nat.le_of_ble_eq_true rfl, Nat.le_of_ble_eq_true rfl⟩) hK hP hD hS hZ hA [0, 1, 2, 3, 4, 5, 6, 7, 8, 9, 10, 11, 12, 13, 14, 15] [] [0, 1, 2, 3, 4, 5, 6, 7, 8, 9, 10, 11, 12, 13, 14, 15] rfl rfl rfl (fun u9_84 => [(x, .inr (5, [.ref tx, .ref ho, .ref ca, .ref tr, .ref hi, .ref sl, .ref sv]))] ++ hw K ho hoa S ++ cw K ca caa u9_84) (fun _ => rfl) 0 5 rfl rfl rfl rfl hl.1 rfl (Nat.le_of_ble_eq_true rfl) (by show (((210 * k + 12 + 24 * j) + 4) + 4) + 4 ≤ 2200; omega) (by show (((1260 * k + 72 + 144 * j) + 24) + 24) + 24 ≤ 13200; omega) dL_pay_84 (fun r84 u9_84 H locs hq84 hP hD hS => ?_)
              have hP : va_P K.1 vwCl ([(x, .inr (5, [.ref tx, .ref ho, .ref ca, .ref tr, .ref hi, .ref sl, .ref sv]))] ++ hw K ho hoa S ++ cw K ca caa u9_84) H := hP
              have hD : va_D A ([(x, .inr (5, [.ref tx, .ref ho, .ref ca, .ref tr, .ref hi, .ref sl, .ref sv]))] ++ hw K ho hoa S ++ cw K ca caa u9_84) := hD
              subst hq84
              refine lv_iload hx hb dL_pay_87 (lv_at hl 6 rfl) ?_
              refine lv_icmp_ne (tgt := 96) hx hb dL_pay_89 (by decide) (fun c_89 => ?_) (fun c_89 => ?_)
              · skip
                refine lv_iconst (v := (0 : Int32)) hx hb dL_pay_96 (by decide) ?_
                refine lv_istore (lv' := [(8, .int (0 : Int32)), (3, .int ((tmS S R k + tmP S k j) + (S 4 (j * 10 + k)))), (0, .ref x), (1, .int ((sumN (S 5) k) + (S 5 k))), (2, .int ((sumN (S 8) k) + (S 8 k))), (4, .int (bfr S P k)), (5, .int (1 : Int32)), (6, .int (nI k)), (7, .int (nI j))]) hx hb dL_pay_97 hl (by decide) rfl (fun ls hl => ?_)
                refine lv_aload_n hx hb dL_pay_99 rfl (lv_at hl 2 rfl) ?_
                refine lv_iload hx hb dL_pay_100 (lv_at hl 7 rfl) ?_
                refine lv_iload hx hb dL_pay_102 (lv_at hl 8 rfl) ?_
                refine lv_iconst (v := (0 : Int32)) hx hb dL_pay_104 (by decide) ?_
                refine xs_Vi (As := [.int (nI k), .int (nI j), .int (0 : Int32)]) (rest := []) (wc := [(x, .inr (5, [.ref tx, .ref ho, .ref ca, .ref tr, .ref hi, .ref sl, .ref sv]))] ++ hw K ho hoa S) (wr := (List.filterMap (fun i => ([(x, .inr (5, [.ref tx, .ref ho, .ref ca, .ref tr, .ref hi, .ref sl, .ref sv]))] ++ hw K ho hoa S ++ cw K ca caa u9_84 : va_W)[i]?) ([12, 13, 14, 15] : List Nat))) ⟨hx, hb, hml, hown, hts⟩ (c_X5_both_0 l K x tx ho ca tr hi sl sv k j hoa S R hR0 (by omega) P hP0 (by omega) (by first | assumption | omega) (by first | assumption | omega) (by first | assumption | omega) H.size) (cwV 3 hts gL_pay_X5_both rfl rfl rfl (by decide +kernel) ⟨Nat.le_of_ble_eq_true rfl, Nat.le_of_ble_eq_true rfl⟩) hK hP hD hS hZ hA [0, 1, 2, 3, 4, 5, 6, 7, 8, 9, 10, 11] [12, 13, 14, 15] [4, 5, 6, 7, 8, 9, 10, 11, 12, 13, 14, 15, 0, 1, 2, 3] rfl rfl rfl (fun _u => [(x, .inr (5, [.ref tx, .ref ho, .ref ca, .ref tr, .ref hi, .ref sl, .ref sv]))] ++ hw K ho hoa S ++ cw K ca caa u9_84) (fun _ => rfl) 0 5 rfl rfl rfl rfl hl.1 rfl (Nat.le_of_ble_eq_true rfl) (by show ((((210 * k + 12 + 24 * j) + 4) + 4) + 4) + 4 ≤ 2200; omega) (by show ((((1260 * k + 72 + 144 * j) + 24) + 24) + 24) + 24 ≤ 13200; omega) dL_pay_105 (fun r105 _ H locs hq105 hP hD hS => ?_)
                have hP : va_P K.1 vwCl ([(x, .inr (5, [.ref tx, .ref ho, .ref ca, .ref tr, .ref hi, .ref sl, .ref sv]))] ++ hw K ho hoa S ++ cw K ca caa u9_84) H := hP
                have hD : va_D A ([(x, .inr (5, [.ref tx, .ref ho, .ref ca, .ref tr, .ref hi, .ref sl, .ref sv]))] ++ hw K ho hoa S ++ cw K ca caa u9_84) := hD
                subst hq105
                refine lv_istore (lv' := [(9, .int (S 3 (j * 10 + k))), (8, .int (0 : Int32)), (3, .int ((tmS S R k + tmP S k j) + (S 4 (j * 10 + k)))), (0, .ref x), (1, .int ((sumN (S 5) k) + (S 5 k))), (2, .int ((sumN (S 8) k) + (S 8 k))), (4, .int (bfr S P k)), (5, .int (1 : Int32)), (6, .int (nI k)), (7, .int (nI j))]) hx hb dL_pay_108 hl (by decide) rfl (fun ls hl => ?_)
                refine lv_aload_n hx hb dL_pay_110 rfl (lv_at hl 3 rfl) ?_
                refine lv_iload hx hb dL_pay_111 (lv_at hl 8 rfl) ?_
                refine lv_iload hx hb dL_pay_113 (lv_at hl 9 rfl) ?_
                refine lv_iconst (v := (2 : Int32)) hx hb dL_pay_115 (by decide) ?_
                refine xs_Vi (As := [.int (nI k), .int (nI j), .int (2 : Int32)]) (rest := []) (wc := [(x, .inr (5, [.ref tx, .ref ho, .ref ca, .ref tr, .ref hi, .ref sl, .ref sv]))] ++ hw K ho hoa S) (wr := (List.filterMap (fun i => ([(x, .inr (5, [.ref tx, .ref ho, .ref ca, .ref tr, .ref hi, .ref sl, .ref sv]))] ++ hw K ho hoa S ++ cw K ca caa u9_84 : va_W)[i]?) ([12, 13, 14, 15] : List Nat))) ⟨hx, hb, hml, hown, hts⟩ (c_X5_both_2 l K x tx ho ca tr hi sl sv k j hoa S R hR0 (by omega) P hP0 (by omega) (by first | assumption | omega) (by first | assumption | omega) (by first | assumption | omega) H.size) (cwV 3 hts gL_pay_X5_both rfl rfl rfl (by decide +kernel) ⟨Nat.le_of_ble_eq_true rfl, Nat.le_of_ble_eq_true rfl⟩) hK hP hD hS hZ hA [0, 1, 2, 3, 4, 5, 6, 7, 8, 9, 10, 11] [12, 13, 14, 15] [4, 5, 6, 7, 8, 9, 10, 11, 12, 13, 14, 15, 0, 1, 2, 3] rfl rfl rfl (fun _u => [(x, .inr (5, [.ref tx, .ref ho, .ref ca, .ref tr, .ref hi, .ref sl, .ref sv]))] ++ hw K ho hoa S ++ cw K ca caa u9_84) (fun _ => rfl) 0 5 rfl rfl rfl rfl hl.1 rfl (Nat.le_of_ble_eq_true rfl) (by show (((((210 * k + 12 + 24 * j) + 4) + 4) + 4) + 4) + 4 ≤ 2200; omega) (by show (((((1260 * k + 72 + 144 * j) + 24) + 24) + 24) + 24) + 24 ≤ 13200; omega) dL_pay_116 (fun r116 _ H locs hq116 hP hD hS => ?_)
                have hP : va_P K.1 vwCl ([(x, .inr (5, [.ref tx, .ref ho, .ref ca, .ref tr, .ref hi, .ref sl, .ref sv]))] ++ hw K ho hoa S ++ cw K ca caa u9_84) H := hP
                have hD : va_D A ([(x, .inr (5, [.ref tx, .ref ho, .ref ca, .ref tr, .ref hi, .ref sl, .ref sv]))] ++ hw K ho hoa S ++ cw K ca caa u9_84) := hD
                subst hq116
                refine lv_iload hx hb dL_pay_119 (lv_at hl 0 rfl) ?_
                refine lv_if_ne (tgt := 128) hx hb dL_pay_121 (by decide) (fun c_121 => ?_) (fun c_121 => ?_)
                · skip
                  refine lv_aload_n hx hb dL_pay_128 rfl (lv_at hl 3 rfl) ?_
                  refine lv_iload hx hb dL_pay_129 (lv_at hl 9 rfl) ?_
                  refine lv_iconst (v := (0 : Int32)) hx hb dL_pay_131 (by decide) ?_
                  refine xs_Vi (As := [.int (nI j), .int (0 : Int32)]) (rest := [.int (wOf S k j)]) (wc := [(x, .inr (5, [.ref tx, .ref ho, .ref ca, .ref tr, .ref hi, .ref sl, .ref sv]))] ++ hw K ho hoa S ++ cw K ca caa u9_84) (wr := (List.filterMap (fun i => ([(x, .inr (5, [.ref tx, .ref ho, .ref ca, .ref tr, .ref hi, .ref sl, .ref sv]))] ++ hw K ho hoa S ++ cw K ca caa u9_84 : va_W)[i]?) ([] : List Nat))) ⟨hx, hb, hml, hown, hts⟩ (c_X5_role_0 l K x tx ho ca tr hi sl sv j hoa S caa u9_84 R hR0 (by omega) P hP0 (by omega) (by first | assumption | omega) (by first | assumption | omega) H.size) (cwV 2 hts gL_pay_X5_role rfl rfl rfl (by decide +kernel) ⟨Nat.le_of_ble_eq_true rfl, Nat.le_of_ble_eq_true rfl⟩) hK hP hD hS hZ hA [0, 1, 2, 3, 4, 5, 6, 7, 8, 9, 10, 11, 12, 13, 14, 15] [] [0, 1, 2, 3, 4, 5, 6, 7, 8, 9, 10, 11, 12, 13, 14, 15] rfl rfl rfl (fun u9_132 => [(x, .inr (5, [.ref tx, .ref ho, .ref ca, .ref tr, .ref hi, .ref sl, .ref sv]))] ++ hw K ho hoa S ++ cw K ca caa u9_132) (fun _ => rfl) 0 5 rfl rfl rfl rfl hl.1 rfl (Nat.le_of_ble_eq_true rfl) (by show ((((((210 * k + 12 + 24 * j) + 4) + 4) + 4) + 4) + 4) + 4 ≤ 2200; omega) (by show ((((((1260 * k + 72 + 144 * j) + 24) + 24) + 24) + 24) + 24) + 24 ≤ 13200; omega) dL_pay_132 (fun r132 u9_132 H locs hq132 hP hD hS => ?_)
                  have hP : va_P K.1 vwCl ([(x, .inr (5, [.ref tx, .ref ho, .ref ca, .ref tr, .ref hi, .ref sl, .ref sv]))] ++ hw K ho hoa S ++ cw K ca caa u9_132) H := hP
                  have hD : va_D A ([(x, .inr (5, [.ref tx, .ref ho, .ref ca, .ref tr, .ref hi, .ref sl, .ref sv]))] ++ hw K ho hoa S ++ cw K ca caa u9_132) := hD
                  subst hq132
                  refine lv_iload hx hb dL_pay_135 (lv_at hl 1 rfl) ?_
                  refine lv_if_eq (tgt := 148) hx hb dL_pay_137 (by decide) (fun c_137 => ?_) (fun c_137 => ?_)
                  rotate_left
                  · exact absurd (by decide) c_137
                  refine lv_iload hx hb dL_pay_148 (lv_at hl 0 rfl) ?_
                  refine lv_imul hx hb dL_pay_150 ?_
                  refine lv_icmp_ne (tgt := 158) hx hb dL_pay_151 (by decide) (fun c_151 => ?_) (fun c_151 => ?_)
                  · exact absurd (by first | exact if_pos c_121 | exact (if_neg c_121).trans (by rw [if_pos c_89]) | exact (if_neg c_121).trans (by rw [if_neg c_89])) c_151
                  · skip
                    refine lv_iconst (v := (1 : Int32)) hx hb dL_pay_154 (by decide) ?_
                    refine lv_goto (tgt := 159) hx hb dL_pay_155 (by decide) ?_
                    refine lv_istore (lv' := [(5, .int (1 : Int32)), (9, .int (S 3 (j * 10 + k))), (8, .int (0 : Int32)), (3, .int ((tmS S R k + tmP S k j) + (S 4 (j * 10 + k)))), (0, .ref x), (1, .int ((sumN (S 5) k) + (S 5 k))), (2, .int ((sumN (S 8) k) + (S 8 k))), (4, .int (bfr S P k)), (6, .int (nI k)), (7, .int (nI j))]) hx hb dL_pay_159 hl (by decide) rfl (fun ls hl => ?_)
                    refine lv_iinc (v := nI (j + 1)) (lv' := [(7, .int (nI (j + 1))), (5, .int (1 : Int32)), (9, .int (S 3 (j * 10 + k))), (8, .int (0 : Int32)), (3, .int ((tmS S R k + tmP S k j) + (S 4 (j * 10 + k)))), (0, .ref x), (1, .int ((sumN (S 5) k) + (S 5 k))), (2, .int ((sumN (S 8) k) + (S 8 k))), (4, .int (bfr S P k)), (6, .int (nI k))]) hx hb dL_pay_161 hl (k := 9) rfl (nI_1 _) (by decide) rfl (fun ls hl => ?_)
                    refine lv_goto (tgt := 53) hx hb dL_pay_164 (by decide) ?_
                    refine W.widen (k := (210 * k + 12 + 24 * (j + 1))) (n := (1260 * k + 72 + 144 * (j + 1))) (by show (((((((210 * k + 12 + 24 * j) + 4) + 4) + 4) + 4) + 4) + 4) ≤ (210 * k + 12 + 24 * (j + 1)); omega) (by show (((((((1260 * k + 72 + 144 * j) + 24) + 24) + 24) + 24) + 24) + 24) ≤ (1260 * k + 72 + 144 * (j + 1)); omega) ?_
                    exact ih53 (j + 1) u9_132 _ _ _ (by omega) (by first | omega | assumption | first | rfl | (simp [c_22, c_60, c_89, c_121, c_151]; done) | omega) hP hD hS (lv_cons (lv_at hl 5 rfl) (lv_cons (lv_at hl 6 rfl) (lv_cons (lv_at hl 7 rfl) (lv_cons (lv_is (lv_at hl 4 rfl) (show (tmS S R k + tmP S k j) + (S 4 (j * 10 + k)) = tmS S R k + tmP S k (j + 1) by exact Int32.add_assoc _ _ _)) (lv_cons (lv_at hl 8 rfl) (lv_cons (lv_at hl 1 rfl) (lv_cons (lv_at hl 9 rfl) (lv_cons (lv_at hl 0 rfl) (lv_nil hl)))))))))
                · skip
                  refine lv_iconst (v := (0 : Int32)) hx hb dL_pay_124 (by decide) ?_
                  refine lv_goto (tgt := 151) hx hb dL_pay_125 (by decide) ?_
                  refine lv_icmp_ne (tgt := 158) hx hb dL_pay_151 (by decide) (fun c_151 => ?_) (fun c_151 => ?_)
                  · exact absurd (by first | exact if_pos c_121 | exact (if_neg c_121).trans (by rw [if_pos c_89]) | exact (if_neg c_121).trans (by rw [if_neg c_89])) c_151
                  · skip
                    refine lv_iconst (v := (1 : Int32)) hx hb dL_pay_154 (by decide) ?_
                    refine lv_goto (tgt := 159) hx hb dL_pay_155 (by decide) ?_
                    refine lv_istore (lv' := [(5, .int (1 : Int32)), (9, .int (S 3 (j * 10 + k))), (8, .int (0 : Int32)), (3, .int ((tmS S R k + tmP S k j) + (S 4 (j * 10 + k)))), (0, .ref x), (1, .int ((sumN (S 5) k) + (S 5 k))), (2, .int ((sumN (S 8) k) + (S 8 k))), (4, .int (bfr S P k)), (6, .int (nI k)), (7, .int (nI j))]) hx hb dL_pay_159 hl (by decide) rfl (fun ls hl => ?_)
                    refine lv_iinc (v := nI (j + 1)) (lv' := [(7, .int (nI (j + 1))), (5, .int (1 : Int32)), (9, .int (S 3 (j * 10 + k))), (8, .int (0 : Int32)), (3, .int ((tmS S R k + tmP S k j) + (S 4 (j * 10 + k)))), (0, .ref x), (1, .int ((sumN (S 5) k) + (S 5 k))), (2, .int ((sumN (S 8) k) + (S 8 k))), (4, .int (bfr S P k)), (6, .int (nI k))]) hx hb dL_pay_161 hl (k := 9) rfl (nI_1 _) (by decide) rfl (fun ls hl => ?_)
                    refine lv_goto (tgt := 53) hx hb dL_pay_164 (by decide) ?_
                    refine W.widen (k := (210 * k + 12 + 24 * (j + 1))) (n := (1260 * k + 72 + 144 * (j + 1))) (by show ((((((210 * k + 12 + 24 * j) + 4) + 4) + 4) + 4) + 4) ≤ (210 * k + 12 + 24 * (j + 1)); omega) (by show ((((((1260 * k + 72 + 144 * j) + 24) + 24) + 24) + 24) + 24) ≤ (1260 * k + 72 + 144 * (j + 1)); omega) ?_
                    exact ih53 (j + 1) u9_84 _ _ _ (by omega) (by first | omega | assumption | first | rfl | (simp [c_22, c_60, c_89, c_121, c_151]; done) | omega) hP hD hS (lv_cons (lv_at hl 5 rfl) (lv_cons (lv_at hl 6 rfl) (lv_cons (lv_at hl 7 rfl) (lv_cons (lv_is (lv_at hl 4 rfl) (show (tmS S R k + tmP S k j) + (S 4 (j * 10 + k)) = tmS S R k + tmP S k (j + 1) by exact Int32.add_assoc _ _ _)) (lv_cons (lv_at hl 8 rfl) (lv_cons (lv_at hl 1 rfl) (lv_cons (lv_at hl 9 rfl) (lv_cons (lv_at hl 0 rfl) (lv_nil hl)))))))))
              · skip
                refine lv_iconst (v := (1 : Int32)) hx hb dL_pay_92 (by decide) ?_
                refine lv_goto (tgt := 97) hx hb dL_pay_93 (by decide) ?_
                refine lv_istore (lv' := [(8, .int (1 : Int32)), (3, .int ((tmS S R k + tmP S k j) + (S 4 (j * 10 + k)))), (0, .ref x), (1, .int ((sumN (S 5) k) + (S 5 k))), (2, .int ((sumN (S 8) k) + (S 8 k))), (4, .int (bfr S P k)), (5, .int (1 : Int32)), (6, .int (nI k)), (7, .int (nI j))]) hx hb dL_pay_97 hl (by decide) rfl (fun ls hl => ?_)
                refine lv_aload_n hx hb dL_pay_99 rfl (lv_at hl 2 rfl) ?_
                refine lv_iload hx hb dL_pay_100 (lv_at hl 7 rfl) ?_
                refine lv_iload hx hb dL_pay_102 (lv_at hl 8 rfl) ?_
                refine lv_iconst (v := (0 : Int32)) hx hb dL_pay_104 (by decide) ?_
                refine xs_Vi (As := [.int (nI k), .int (nI j), .int (0 : Int32)]) (rest := []) (wc := [(x, .inr (5, [.ref tx, .ref ho, .ref ca, .ref tr, .ref hi, .ref sl, .ref sv]))] ++ hw K ho hoa S) (wr := (List.filterMap (fun i => ([(x, .inr (5, [.ref tx, .ref ho, .ref ca, .ref tr, .ref hi, .ref sl, .ref sv]))] ++ hw K ho hoa S ++ cw K ca caa u9_84 : va_W)[i]?) ([12, 13, 14, 15] : List Nat))) ⟨hx, hb, hml, hown, hts⟩ (c_X5_both_0 l K x tx ho ca tr hi sl sv k j hoa S R hR0 (by omega) P hP0 (by omega) (by first | assumption | omega) (by first | assumption | omega) (by first | assumption | omega) H.size) (cwV 3 hts gL_pay_X5_both rfl rfl rfl (by decide +kernel) ⟨Nat.le_of_ble_eq_true rfl, Nat.le_of_ble_eq_true rfl⟩) hK hP hD hS hZ hA [0, 1, 2, 3, 4, 5, 6, 7, 8, 9, 10, 11] [12, 13, 14, 15] [4, 5, 6, 7, 8, 9, 10, 11, 12, 13, 14, 15, 0, 1, 2, 3] rfl rfl rfl (fun _u => [(x, .inr (5, [.ref tx, .ref ho, .ref ca, .ref tr, .ref hi, .ref sl, .ref sv]))] ++ hw K ho hoa S ++ cw K ca caa u9_84) (fun _ => rfl) 0 5 rfl rfl rfl rfl hl.1 rfl (Nat.le_of_ble_eq_true rfl) (by show ((((210 * k + 12 + 24 * j) + 4) + 4) + 4) + 4 ≤ 2200; omega) (by show ((((1260 * k + 72 + 144 * j) + 24) + 24) + 24) + 24 ≤ 13200; omega) dL_pay_105 (fun r105 _ H locs hq105 hP hD hS => ?_)
                have hP : va_P K.1 vwCl ([(x, .inr (5, [.ref tx, .ref ho, .ref ca, .ref tr, .ref hi, .ref sl, .ref sv]))] ++ hw K ho hoa S ++ cw K ca caa u9_84) H := hP
                have hD : va_D A ([(x, .inr (5, [.ref tx, .ref ho, .ref ca, .ref tr, .ref hi, .ref sl, .ref sv]))] ++ hw K ho hoa S ++ cw K ca caa u9_84) := hD
                subst hq105
                refine lv_istore (lv' := [(9, .int (S 3 (j * 10 + k))), (8, .int (1 : Int32)), (3, .int ((tmS S R k + tmP S k j) + (S 4 (j * 10 + k)))), (0, .ref x), (1, .int ((sumN (S 5) k) + (S 5 k))), (2, .int ((sumN (S 8) k) + (S 8 k))), (4, .int (bfr S P k)), (5, .int (1 : Int32)), (6, .int (nI k)), (7, .int (nI j))]) hx hb dL_pay_108 hl (by decide) rfl (fun ls hl => ?_)
                refine lv_aload_n hx hb dL_pay_110 rfl (lv_at hl 3 rfl) ?_
                refine lv_iload hx hb dL_pay_111 (lv_at hl 8 rfl) ?_
                refine lv_iload hx hb dL_pay_113 (lv_at hl 9 rfl) ?_
                refine lv_iconst (v := (2 : Int32)) hx hb dL_pay_115 (by decide) ?_
                refine xs_Vi (As := [.int (nI k), .int (nI j), .int (2 : Int32)]) (rest := []) (wc := [(x, .inr (5, [.ref tx, .ref ho, .ref ca, .ref tr, .ref hi, .ref sl, .ref sv]))] ++ hw K ho hoa S) (wr := (List.filterMap (fun i => ([(x, .inr (5, [.ref tx, .ref ho, .ref ca, .ref tr, .ref hi, .ref sl, .ref sv]))] ++ hw K ho hoa S ++ cw K ca caa u9_84 : va_W)[i]?) ([12, 13, 14, 15] : List Nat))) ⟨hx, hb, hml, hown, hts⟩ (c_X5_both_2 l K x tx ho ca tr hi sl sv k j hoa S R hR0 (by omega) P hP0 (by omega) (by first | assumption | omega) (by first | assumption | omega) (by first | assumption | omega) H.size) (cwV 3 hts gL_pay_X5_both rfl rfl rfl (by decide +kernel) ⟨Nat.le_of_ble_eq_true rfl, Nat.le_of_ble_eq_true rfl⟩) hK hP hD hS hZ hA [0, 1, 2, 3, 4, 5, 6, 7, 8, 9, 10, 11] [12, 13, 14, 15] [4, 5, 6, 7, 8, 9, 10, 11, 12, 13, 14, 15, 0, 1, 2, 3] rfl rfl rfl (fun _u => [(x, .inr (5, [.ref tx, .ref ho, .ref ca, .ref tr, .ref hi, .ref sl, .ref sv]))] ++ hw K ho hoa S ++ cw K ca caa u9_84) (fun _ => rfl) 0 5 rfl rfl rfl rfl hl.1 rfl (Nat.le_of_ble_eq_true rfl) (by show (((((210 * k + 12 + 24 * j) + 4) + 4) + 4) + 4) + 4 ≤ 2200; omega) (by show (((((1260 * k + 72 + 144 * j) + 24) + 24) + 24) + 24) + 24 ≤ 13200; omega) dL_pay_116 (fun r116 _ H locs hq116 hP hD hS => ?_)
                have hP : va_P K.1 vwCl ([(x, .inr (5, [.ref tx, .ref ho, .ref ca, .ref tr, .ref hi, .ref sl, .ref sv]))] ++ hw K ho hoa S ++ cw K ca caa u9_84) H := hP
                have hD : va_D A ([(x, .inr (5, [.ref tx, .ref ho, .ref ca, .ref tr, .ref hi, .ref sl, .ref sv]))] ++ hw K ho hoa S ++ cw K ca caa u9_84) := hD
                subst hq116
                refine lv_iload hx hb dL_pay_119 (lv_at hl 0 rfl) ?_
                refine lv_if_ne (tgt := 128) hx hb dL_pay_121 (by decide) (fun c_121 => ?_) (fun c_121 => ?_)
                · skip
                  refine lv_aload_n hx hb dL_pay_128 rfl (lv_at hl 3 rfl) ?_
                  refine lv_iload hx hb dL_pay_129 (lv_at hl 9 rfl) ?_
                  refine lv_iconst (v := (0 : Int32)) hx hb dL_pay_131 (by decide) ?_
                  refine xs_Vi (As := [.int (nI j), .int (0 : Int32)]) (rest := [.int (wOf S k j)]) (wc := [(x, .inr (5, [.ref tx, .ref ho, .ref ca, .ref tr, .ref hi, .ref sl, .ref sv]))] ++ hw K ho hoa S ++ cw K ca caa u9_84) (wr := (List.filterMap (fun i => ([(x, .inr (5, [.ref tx, .ref ho, .ref ca, .ref tr, .ref hi, .ref sl, .ref sv]))] ++ hw K ho hoa S ++ cw K ca caa u9_84 : va_W)[i]?) ([] : List Nat))) ⟨hx, hb, hml, hown, hts⟩ (c_X5_role_0 l K x tx ho ca tr hi sl sv j hoa S caa u9_84 R hR0 (by omega) P hP0 (by omega) (by first | assumption | omega) (by first | assumption | omega) H.size) (cwV 2 hts gL_pay_X5_role rfl rfl rfl (by decide +kernel) ⟨Nat.le_of_ble_eq_true rfl, Nat.le_of_ble_eq_true rfl⟩) hK hP hD hS hZ hA [0, 1, 2, 3, 4, 5, 6, 7, 8, 9, 10, 11, 12, 13, 14, 15] [] [0, 1, 2, 3, 4, 5, 6, 7, 8, 9, 10, 11, 12, 13, 14, 15] rfl rfl rfl (fun u9_132 => [(x, .inr (5, [.ref tx, .ref ho, .ref ca, .ref tr, .ref hi, .ref sl, .ref sv]))] ++ hw K ho hoa S ++ cw K ca caa u9_132) (fun _ => rfl) 0 5 rfl rfl rfl rfl hl.1 rfl (Nat.le_of_ble_eq_true rfl) (by show ((((((210 * k + 12 + 24 * j) + 4) + 4) + 4) + 4) + 4) + 4 ≤ 2200; omega) (by show ((((((1260 * k + 72 + 144 * j) + 24) + 24) + 24) + 24) + 24) + 24 ≤ 13200; omega) dL_pay_132 (fun r132 u9_132 H locs hq132 hP hD hS => ?_)
                  have hP : va_P K.1 vwCl ([(x, .inr (5, [.ref tx, .ref ho, .ref ca, .ref tr, .ref hi, .ref sl, .ref sv]))] ++ hw K ho hoa S ++ cw K ca caa u9_132) H := hP
                  have hD : va_D A ([(x, .inr (5, [.ref tx, .ref ho, .ref ca, .ref tr, .ref hi, .ref sl, .ref sv]))] ++ hw K ho hoa S ++ cw K ca caa u9_132) := hD
                  subst hq132
                  refine lv_iload hx hb dL_pay_135 (lv_at hl 1 rfl) ?_
                  refine lv_if_eq (tgt := 148) hx hb dL_pay_137 (by decide) (fun c_137 => ?_) (fun c_137 => ?_)
                  · exact absurd c_137 (by decide)
                  refine lv_iload hx hb dL_pay_140 (lv_at hl 0 rfl) ?_
                  refine lv_bipush (v := (10 : Int32)) hx hb dL_pay_142 (by decide) ?_
                  refine lv_iadd hx hb dL_pay_144 ?_
                  refine lv_goto (tgt := 150) hx hb dL_pay_145 (by decide) ?_
                  refine lv_imul hx hb dL_pay_150 ?_
                  refine lv_icmp_ne (tgt := 158) hx hb dL_pay_151 (by decide) (fun c_151 => ?_) (fun c_151 => ?_)
                  · exact absurd (by first | exact if_pos c_121 | exact (if_neg c_121).trans (by rw [if_pos c_89]) | exact (if_neg c_121).trans (by rw [if_neg c_89])) c_151
                  · skip
                    refine lv_iconst (v := (1 : Int32)) hx hb dL_pay_154 (by decide) ?_
                    refine lv_goto (tgt := 159) hx hb dL_pay_155 (by decide) ?_
                    refine lv_istore (lv' := [(5, .int (1 : Int32)), (9, .int (S 3 (j * 10 + k))), (8, .int (1 : Int32)), (3, .int ((tmS S R k + tmP S k j) + (S 4 (j * 10 + k)))), (0, .ref x), (1, .int ((sumN (S 5) k) + (S 5 k))), (2, .int ((sumN (S 8) k) + (S 8 k))), (4, .int (bfr S P k)), (6, .int (nI k)), (7, .int (nI j))]) hx hb dL_pay_159 hl (by decide) rfl (fun ls hl => ?_)
                    refine lv_iinc (v := nI (j + 1)) (lv' := [(7, .int (nI (j + 1))), (5, .int (1 : Int32)), (9, .int (S 3 (j * 10 + k))), (8, .int (1 : Int32)), (3, .int ((tmS S R k + tmP S k j) + (S 4 (j * 10 + k)))), (0, .ref x), (1, .int ((sumN (S 5) k) + (S 5 k))), (2, .int ((sumN (S 8) k) + (S 8 k))), (4, .int (bfr S P k)), (6, .int (nI k))]) hx hb dL_pay_161 hl (k := 9) rfl (nI_1 _) (by decide) rfl (fun ls hl => ?_)
                    refine lv_goto (tgt := 53) hx hb dL_pay_164 (by decide) ?_
                    refine W.widen (k := (210 * k + 12 + 24 * (j + 1))) (n := (1260 * k + 72 + 144 * (j + 1))) (by show (((((((210 * k + 12 + 24 * j) + 4) + 4) + 4) + 4) + 4) + 4) ≤ (210 * k + 12 + 24 * (j + 1)); omega) (by show (((((((1260 * k + 72 + 144 * j) + 24) + 24) + 24) + 24) + 24) + 24) ≤ (1260 * k + 72 + 144 * (j + 1)); omega) ?_
                    exact ih53 (j + 1) u9_132 _ _ _ (by omega) (by first | omega | assumption | first | rfl | (simp [c_22, c_60, c_89, c_121, c_151]; done) | omega) hP hD hS (lv_cons (lv_at hl 5 rfl) (lv_cons (lv_at hl 6 rfl) (lv_cons (lv_at hl 7 rfl) (lv_cons (lv_is (lv_at hl 4 rfl) (show (tmS S R k + tmP S k j) + (S 4 (j * 10 + k)) = tmS S R k + tmP S k (j + 1) by exact Int32.add_assoc _ _ _)) (lv_cons (lv_at hl 8 rfl) (lv_cons (lv_at hl 1 rfl) (lv_cons (lv_at hl 9 rfl) (lv_cons (lv_at hl 0 rfl) (lv_nil hl)))))))))
                · skip
                  refine lv_iconst (v := (0 : Int32)) hx hb dL_pay_124 (by decide) ?_
                  refine lv_goto (tgt := 151) hx hb dL_pay_125 (by decide) ?_
                  refine lv_icmp_ne (tgt := 158) hx hb dL_pay_151 (by decide) (fun c_151 => ?_) (fun c_151 => ?_)
                  · exact absurd (by first | exact if_pos c_121 | exact (if_neg c_121).trans (by rw [if_pos c_89]) | exact (if_neg c_121).trans (by rw [if_neg c_89])) c_151
                  · skip
                    refine lv_iconst (v := (1 : Int32)) hx hb dL_pay_154 (by decide) ?_
                    refine lv_goto (tgt := 159) hx hb dL_pay_155 (by decide) ?_
                    refine lv_istore (lv' := [(5, .int (1 : Int32)), (9, .int (S 3 (j * 10 + k))), (8, .int (1 : Int32)), (3, .int ((tmS S R k + tmP S k j) + (S 4 (j * 10 + k)))), (0, .ref x), (1, .int ((sumN (S 5) k) + (S 5 k))), (2, .int ((sumN (S 8) k) + (S 8 k))), (4, .int (bfr S P k)), (6, .int (nI k)), (7, .int (nI j))]) hx hb dL_pay_159 hl (by decide) rfl (fun ls hl => ?_)
                    refine lv_iinc (v := nI (j + 1)) (lv' := [(7, .int (nI (j + 1))), (5, .int (1 : Int32)), (9, .int (S 3 (j * 10 + k))), (8, .int (1 : Int32)), (3, .int ((tmS S R k + tmP S k j) + (S 4 (j * 10 + k)))), (0, .ref x), (1, .int ((sumN (S 5) k) + (S 5 k))), (2, .int ((sumN (S 8) k) + (S 8 k))), (4, .int (bfr S P k)), (6, .int (nI k))]) hx hb dL_pay_161 hl (k := 9) rfl (nI_1 _) (by decide) rfl (fun ls hl => ?_)
                    refine lv_goto (tgt := 53) hx hb dL_pay_164 (by decide) ?_
                    refine W.widen (k := (210 * k + 12 + 24 * (j + 1))) (n := (1260 * k + 72 + 144 * (j + 1))) (by show ((((((210 * k + 12 + 24 * j) + 4) + 4) + 4) + 4) + 4) ≤ (210 * k + 12 + 24 * (j + 1)); omega) (by show ((((((1260 * k + 72 + 144 * j) + 24) + 24) + 24) + 24) + 24) ≤ (1260 * k + 72 + 144 * (j + 1)); omega) ?_
                    exact ih53 (j + 1) u9_84 _ _ _ (by omega) (by first | omega | assumption | first | rfl | (simp [c_22, c_60, c_89, c_121, c_151]; done) | omega) hP hD hS (lv_cons (lv_at hl 5 rfl) (lv_cons (lv_at hl 6 rfl) (lv_cons (lv_at hl 7 rfl) (lv_cons (lv_is (lv_at hl 4 rfl) (show (tmS S R k + tmP S k j) + (S 4 (j * 10 + k)) = tmS S R k + tmP S k (j + 1) by exact Int32.add_assoc _ _ _)) (lv_cons (lv_at hl 8 rfl) (lv_cons (lv_at hl 1 rfl) (lv_cons (lv_at hl 9 rfl) (lv_cons (lv_at hl 0 rfl) (lv_nil hl)))))))))
        refine W.widen (k := (210 * k + 12 + 24 * 0)) (n := (1260 * k + 72 + 144 * 0)) (by show ((((210 * k) + 4) + 4) + 4) ≤ (210 * k + 12 + 24 * 0); omega) (by show ((((1260 * k) + 24) + 24) + 24) ≤ (1260 * k + 72 + 144 * 0); omega) ?_
        exact lp53 _ 0 u9_45 _ _ _ (Nat.lt_succ_self _) (by first | omega | assumption | first | rfl | (simp [c_22]; done) | omega) hP hD hS (lv_cons (lv_at hl 3 rfl) (lv_cons (lv_at hl 2 rfl) (lv_cons (lv_at hl 1 rfl) (lv_cons (lv_is (lv_at hl 4 rfl) (show tmS S R k = tmS S R k + tmP S k 0 by exact (Int32.add_zero _).symm)) (lv_cons (lv_at hl 5 rfl) (lv_cons (lv_at hl 6 rfl) (lv_cons (lv_at hl 7 rfl) (lv_cons (lv_is (lv_at hl 0 rfl) (show (0 : Int32) = nI 0 by first | rfl | (simp [c_22]; done) | omega)) (lv_nil hl)))))))))
  refine W.widen (k := (210 * 0)) (n := (1260 * 0)) (by show 0 ≤ (210 * 0); omega) (by show 0 ≤ (1260 * 0); omega) ?_
  exact lp15 _ 0 C _ _ _ (Nat.lt_succ_self _) (by first | omega | assumption | first | rfl | (simp; done) | omega) hP hD hS (lv_cons (lv_at hl 6 rfl) (lv_cons (lv_is (lv_at hl 5 rfl) (show (0 : Int32) = sumN (S 5) 0 by first | rfl | (simp; done) | omega)) (lv_cons (lv_is (lv_at hl 4 rfl) (show (0 : Int32) = sumN (S 8) 0 by first | rfl | (simp; done) | omega)) (lv_cons (lv_is (lv_at hl 3 rfl) (show (0 : Int32) = tmS S R 0 by first | rfl | (simp; done) | omega)) (lv_cons (lv_is (lv_at hl 2 rfl) (show (-1 : Int32) = bfr S P 0 by first | rfl | (simp; done) | omega)) (lv_cons (lv_at hl 1 rfl) (lv_cons (lv_is (lv_at hl 0 rfl) (show (0 : Int32) = nI 0 by first | rfl | (simp; done) | omega)) (lv_nil hl))))))))

/-! trials -/
theorem kp_Play {S : HV} {R P j n : Nat} (h : j ≠ 4 ∧ j ≠ 5 ∧ j ≠ 6 ∧ j ≠ 8 ∧ j ≠ 12 ∧ j ≠ 13 ∧ j ≠ 14 ∧ j ≠ 15 ∧ j ≠ 16) (e : S j 0 = nI n) : hPlay S R P j 0 = nI n := by
  unfold hPlay
  rw [hput, hrow_ne _ _ (by omega), hput, hrow_ne _ _ (by omega), hrow_ne _ _ (by omega)]
  split
  · rw [hput, hrow_ne _ _ (by omega), e]
  · rw [hput, hrow_ne _ _ (by omega), hPf_keep S _ j (by omega), e]
theorem kp_Post {S : HV} {R P j n : Nat} (h : j ≠ 2 ∧ j ≠ 16) (e : S j 0 = nI n) : hPost S R P j 0 = nI n := by
  unfold hPost
  rw [hput, hrow_ne _ _ (by omega), hrow_ne _ _ (by omega), e]
theorem kp_Pass {S : HV} {k j n : Nat} (h : j ≠ 6 ∧ j ≠ 12 ∧ j ≠ 16) (e : S j 0 = nI n) : hPass S k j 0 = nI n := by
  unfold hPass
  rw [hput, hrow_ne _ _ (by omega), hput, hrow_ne _ _ (by omega), hrow_ne _ _ (by omega), e]
theorem kp_Away {S : HV} {p d j n : Nat} (h : j ≠ 7) (e : S j 0 = nI n) : hAway S p d j 0 = nI n := by
  unfold hAway
  rw [hset, hrow_ne _ _ (by omega), e]
theorem kp_ite {c : Prop} [Decidable c] {A B : HV} {j n : Nat} (a : A j 0 = nI n) (b : B j 0 = nI n) : (if c then A else B) j 0 = nI n := by
  split
  · exact a
  · exact b
def hPn (S : HV) (R P : Nat) : Nat → HV | 0 => S | k + 1 => hPlay (hPn S R P k) R P
theorem kp_Pn {S : HV} {R P j n : Nat} (h : j ≠ 4 ∧ j ≠ 5 ∧ j ≠ 6 ∧ j ≠ 8 ∧ j ≠ 12 ∧ j ≠ 13 ∧ j ≠ 14 ∧ j ≠ 15 ∧ j ≠ 16) (e : S j 0 = nI n) : ∀ k, hPn S R P k j 0 = nI n
  | 0 => e
  | k + 1 => kp_Play h (kp_Pn h e k)
def dyF (S : HV) (R P : Nat) : Nat → Int32 | 0 => 0 | k + 1 => if hPaid (hPn S R P k) R P = -1 then dyF S R P k else dyF S R P k ||| ((1 : Int32) <<< (nI k &&& 31))
/-- who plays a role: of the cast of today -/
abbrev hCs (S : HV) (R P r : Nat) : Int32 := csF (wFr S (frN S P)) R P r

abbrev rm_X4_begin : Room := { frames := 2, cells := 0, slots := 0, locals := 43 }
set_option maxHeartbeats 4000000 in
set_option maxRecDepth 100000 in
theorem c_X4_begin (l : Launch) (K : KX) (r : Nat) (th : Nat) (ta : Nat → Nat) (U : HV) (h : Nat) (a : Nat → Nat) (S : HV) (hz : S 16 0 = 0 ∨ S 16 0 = 1) (sz : Nat) : Met l yX4_begin wsX4_begin rm_X4_begin (va_Pc [.ref r, .ref h] (xPre K ([(r, .inr (4, [.ref th]))] ++ hw K th ta U ++ hw K h a S) sz)) (va_Qv (fun _u : Unit => True) (fun _u t => xPost K (va_A ([(r, .inr (4, [.ref th]))] ++ hw K th ta U ++ hw K h a S) sz) ([(r, .inr (4, [.ref th]))] ++ hw K th ta S ++ hw K h a S) t) (va_A ([(r, .inr (4, [.ref th]))] ++ hw K th ta U ++ hw K h a S) sz)) 0 0 (va_A ([(r, .inr (4, [.ref th]))] ++ hw K th ta U ++ hw K h a S) sz) := by
  refine xw_startv (cc := cX4_begin) (maxL := 2) (by decide) rfl (Nat.le_of_ble_eq_true rfl) ?_
  intro p9 e9 s9 m9 below9 meth9 c9 H locs ls A av9 Q9 hx hb hlocks hml hname hts hown hK hP hD hS hA hsz hend hl
  have hown : s9.vm.findClass RX4 = some m9.cls := hown
  have hl : lv_has ls 2 [(0, .ref r), (1, .ref h)] := hl
  have hi4 : ∀ w ∈ u_ws RX4 TX4 1, w ∈ wsX4_begin := by decide +kernel
  have lk12 := hts (.fieldLink RX4 12 "StandIns$Trial" "house" "LStandIns$House;") (by decide +kernel)
  refine lv_aload_n hx hb dX4_begin_0 rfl (lv_at hl 0 rfl) ?_
  refine va_get (ci := 4) (v := .ref th) (C := RX4) (T := TX4) (N := 1) hx hb hts hi4 hown hK hP 0 rfl rfl 0 (by decide) lk12 (fun _ h9 => h9) rfl dX4_begin_1 ?_
  refine lv_aload_n hx hb dX4_begin_4 rfl (lv_at hl 1 rfl) ?_
  refine xw_Vv (As := [.ref h]) (rest := []) (wc := hw K th ta U ++ hw K h a S) (wr := (List.filterMap (fun i => ([(r, .inr (4, [.ref th]))] ++ hw K th ta U ++ hw K h a S : va_W)[i]?) ([0] : List Nat))) ⟨hx, hb, hml, hown, hts⟩ (c_X2_copyFrom l K th ta U h a S (by first | assumption | omega) H.size) (cwV 1 hts gX4_begin_X2_copyFrom rfl rfl rfl (by decide +kernel) ⟨Nat.le_of_ble_eq_true rfl, Nat.le_of_ble_eq_true rfl⟩) hK hP hD hS hA [1, 2, 3, 4, 5, 6, 7, 8, 9, 10, 11, 12, 13, 14, 15, 16, 17, 18, 19, 20, 21, 22] [0] [0, 1, 2, 3, 4, 5, 6, 7, 8, 9, 10, 11, 12, 13, 14, 15, 16, 17, 18, 19, 20, 21, 22] rfl rfl rfl (fun _u => [(r, .inr (4, [.ref th]))] ++ hw K th ta S ++ hw K h a S) (fun _ => rfl) 0 2 rfl rfl rfl rfl hl.1 rfl (Nat.le_of_ble_eq_true rfl) (Nat.le_of_ble_eq_true rfl) (Nat.le_of_ble_eq_true rfl) dX4_begin_5 (fun _ H locs hq5 hP hD hS => ?_)
  have hP : va_P K.1 vwCl ([(r, .inr (4, [.ref th]))] ++ hw K th ta S ++ hw K h a S) H := hP
  have hD : va_D A ([(r, .inr (4, [.ref th]))] ++ hw K th ta S ++ hw K h a S) := hD
  exact hend _ _ _ _ _ _ () hP hD hS (Nat.le_of_ble_eq_true rfl) (Nat.le_of_ble_eq_true rfl) trivial dX4_begin_8

abbrev rm_X4_castDays : Room := { frames := 5, cells := 0, slots := 0, locals := 117 }
set_option maxHeartbeats 4000000 in
set_option maxRecDepth 100000 in
theorem c_X4_castDays (l : Launch) (K : KX) (r : Nat) (th : Nat) (ta : Nat → Nat) (U : HV) (n : Nat) (hn : n < 31) (c : Nat) (b : Nat → Nat) (C : HV) (R : Nat) (hR0 : U 10 0 = nI R) (hR0b : R ≤ 6) (P : Nat) (hP0 : U 11 0 = nI P) (hP0b : P ≤ 10) (sz : Nat) : Met l yX4_castDays wsX4_castDays rm_X4_castDays (va_Pc [.ref r, .int (nI n), .ref c] (xPre K ([(r, .inr (4, [.ref th]))] ++ hw K th ta U ++ cw K c b C) sz)) (va_Qi (fun (r9 : Int32) (u9 : HV) => r9 = dyF U R P n) (fun u9 t => xPost K (va_A ([(r, .inr (4, [.ref th]))] ++ hw K th ta U ++ cw K c b C) sz) ([(r, .inr (4, [.ref th]))] ++ hw K th ta (hPn U R P n) ++ cw K c b u9) t) (va_A ([(r, .inr (4, [.ref th]))] ++ hw K th ta U ++ cw K c b C) sz)) 0 0 (va_A ([(r, .inr (4, [.ref th]))] ++ hw K th ta U ++ cw K c b C) sz) := by
  refine xw_starti (cc := cX4_castDays) (maxL := 5) (by decide) rfl (Nat.le_of_ble_eq_true rfl) ?_
  intro p9 e9 s9 m9 below9 meth9 c9 H locs ls A av9 Q9 hx hb hlocks hml hname hts hown hK hP hD hS hA hsz hend hl
  have hown : s9.vm.findClass RX4 = some m9.cls := hown
  have hl : lv_has ls 5 [(0, .ref r), (1, .int (nI n)), (2, .ref c)] := hl
  have hi4 : ∀ w ∈ u_ws RX4 TX4 1, w ∈ wsX4_castDays := by decide +kernel
  have lk12 := hts (.fieldLink RX4 12 "StandIns$Trial" "house" "LStandIns$House;") (by decide +kernel)
  refine lv_iconst (v := (0 : Int32)) hx hb dX4_castDays_0 (by decide) ?_
  refine lv_istore_n (lv' := [(3, .int (0 : Int32)), (0, .ref r), (1, .int (nI n)), (2, .ref c)]) hx hb dX4_castDays_1 rfl hl (by decide) rfl (fun ls hl => ?_)
  refine lv_iconst (v := (0 : Int32)) hx hb dX4_castDays_2 (by decide) ?_
  refine lv_istore (lv' := [(4, .int (0 : Int32)), (3, .int (0 : Int32)), (0, .ref r), (1, .int (nI n)), (2, .ref c)]) hx hb dX4_castDays_3 hl (by decide) rfl (fun ls hl => ?_)
  have lp5 : ∀ (n9 : Nat) (k : Nat) (E : HV) (H : Heap) (locs : List Loc) (ls : Array Slot), n - k < n9 → (k ≤ n) → va_P K.1 vwCl ([(r, .inr (4, [.ref th]))] ++ hw K th ta (hPn U R P k) ++ cw K c b E) H → va_D A ([(r, .inr (4, [.ref th]))] ++ hw K th ta (hPn U R P k) ++ cw K c b E) → va_S A s9.heap H locs → lv_has ls 5 [(0, .ref r), (1, .int (nI n)), (2, .ref c), (3, .int (dyF U R P k)), (4, .int (nI k))] → W p9 l e9 rm_X4_castDays s9 m9 av9 below9 meth9 c9 H locs 0 0 Q9 (F0 m9 5 ls []) := by
    intro n9
    induction n9 with
    | zero => intro k E H locs ls hmu hk hP hD hS hl; exact absurd hmu (Nat.not_lt_zero _)
    | succ n9 ih5 =>
      intro k E H locs ls hmu hk hP hD hS hl
      refine lv_iload hx hb dX4_castDays_5 (lv_at hl 4 rfl) ?_
      refine lv_iload_n hx hb dX4_castDays_7 rfl (lv_at hl 1 rfl) ?_
      refine xn_icmp_ge (tgt := 36) hx hb k n rfl rfl (by omega) (by omega) dX4_castDays_8 (by decide) (fun c_8 => ?_) (fun c_8 => ?_)
      · skip
        refine lv_iload_n hx hb dX4_castDays_36 rfl (lv_at hl 3 rfl) ?_
        have eS1 : hPn U R P k = hPn U R P n := by rw [show k = n by omega]
        rw [eS1] at hP hD
        exact hend _ _ _ _ _ _ _ E hP hD hS (Nat.le_of_ble_eq_true rfl) (Nat.le_of_ble_eq_true rfl) (by rw [show k = n by omega]) dX4_castDays_37
      · skip
        refine lv_aload_n hx hb dX4_castDays_11 rfl (lv_at hl 0 rfl) ?_
        refine va_get (ci := 4) (v := .ref th) (C := RX4) (T := TX4) (N := 1) hx hb hts hi4 hown hK hP 0 rfl rfl 0 (by decide) lk12 (fun _ h9 => h9) rfl dX4_castDays_12 ?_
        refine lv_aload_n hx hb dX4_castDays_15 rfl (lv_at hl 2 rfl) ?_
        refine xw_Vi (As := [.ref c]) (rest := []) (wc := hw K th ta (hPn U R P k) ++ cw K c b E) (wr := (List.filterMap (fun i => ([(r, .inr (4, [.ref th]))] ++ hw K th ta (hPn U R P k) ++ cw K c b E : va_W)[i]?) ([0] : List Nat))) ⟨hx, hb, hml, hown, hts⟩ (c_X2_playDay l K th ta (hPn U R P k) c b E R (kp_Pn (by decide) hR0 k) (by omega) P (kp_Pn (by decide) hP0 k) (by omega) H.size) (cwV 1 hts gX4_castDays_X2_playDay rfl rfl rfl (by decide +kernel) ⟨Nat.le_of_ble_eq_true rfl, Nat.le_of_ble_eq_true rfl⟩) hK hP hD hS hA [1, 2, 3, 4, 5, 6, 7, 8, 9, 10, 11, 12, 13, 14, 15] [0] [0, 1, 2, 3, 4, 5, 6, 7, 8, 9, 10, 11, 12, 13, 14, 15] rfl rfl rfl (fun D16 => [(r, .inr (4, [.ref th]))] ++ hw K th ta (hPlay (hPn U R P k) R P) ++ cw K c b D16) (fun _ => rfl) 0 2 rfl rfl rfl rfl hl.1 rfl (Nat.le_of_ble_eq_true rfl) (Nat.le_of_ble_eq_true rfl) (Nat.le_of_ble_eq_true rfl) dX4_castDays_16 (fun r16 D16 H locs hq16 hP hD hS => ?_)
        have hP : va_P K.1 vwCl ([(r, .inr (4, [.ref th]))] ++ hw K th ta (hPlay (hPn U R P k) R P) ++ cw K c b D16) H := hP
        have hD : va_D A ([(r, .inr (4, [.ref th]))] ++ hw K th ta (hPlay (hPn U R P k) R P) ++ cw K c b D16) := hD
        subst hq16
        refine lv_iconst (v := (-1 : Int32)) hx hb dX4_castDays_19 (by decide) ?_
        refine lv_icmp_eq (tgt := 30) hx hb dX4_castDays_20 (by decide) (fun c_20 => ?_) (fun c_20 => ?_)
        · skip
          refine lv_iinc (v := nI (k + 1)) (lv' := [(4, .int (nI (k + 1))), (0, .ref r), (1, .int (nI n)), (2, .ref c), (3, .int (dyF U R P k))]) hx hb dX4_castDays_30 hl (k := 4) rfl (nI_1 _) (by decide) rfl (fun ls hl => ?_)
          refine lv_goto (tgt := 5) hx hb dX4_castDays_33 (by decide) ?_
          have eS1 : hPlay (hPn U R P k) R P = hPn U R P (k + 1) := by rfl
          have hP : va_P K.1 vwCl ([(r, .inr (4, [.ref th]))] ++ hw K th ta (hPn U R P (k + 1)) ++ cw K c b D16) H := by rw [← eS1]; exact hP
          have hD : va_D A ([(r, .inr (4, [.ref th]))] ++ hw K th ta (hPn U R P (k + 1)) ++ cw K c b D16) := by rw [← eS1]; exact hD
          exact ih5 (k + 1) D16 _ _ _ (by omega) (by first | omega | assumption | first | rfl | (simp [c_8, c_20]; done) | omega) hP hD hS (lv_cons (lv_at hl 1 rfl) (lv_cons (lv_at hl 2 rfl) (lv_cons (lv_at hl 3 rfl) (lv_cons (lv_is (lv_at hl 4 rfl) (show dyF U R P k = dyF U R P (k + 1) by first | (rw [dyF, if_pos c_20]; done) | (rw [dyF, if_neg c_20]; done))) (lv_cons (lv_at hl 0 rfl) (lv_nil hl))))))
        · skip
          refine lv_iload_n hx hb dX4_castDays_23 rfl (lv_at hl 3 rfl) ?_
          refine lv_iconst (v := (1 : Int32)) hx hb dX4_castDays_24 (by decide) ?_
          refine lv_iload hx hb dX4_castDays_25 (lv_at hl 4 rfl) ?_
          refine lv_ishl hx hb dX4_castDays_27 ?_
          refine lv_ior hx hb dX4_castDays_28 ?_
          refine lv_istore_n (lv' := [(3, .int ((dyF U R P k) ||| ((1 : Int32) <<< ((nI k) &&& 31)))), (0, .ref r), (1, .int (nI n)), (2, .ref c), (4, .int (nI k))]) hx hb dX4_castDays_29 rfl hl (by decide) rfl (fun ls hl => ?_)
          refine lv_iinc (v := nI (k + 1)) (lv' := [(4, .int (nI (k + 1))), (3, .int ((dyF U R P k) ||| ((1 : Int32) <<< ((nI k) &&& 31)))), (0, .ref r), (1, .int (nI n)), (2, .ref c)]) hx hb dX4_castDays_30 hl (k := 4) rfl (nI_1 _) (by decide) rfl (fun ls hl => ?_)
          refine lv_goto (tgt := 5) hx hb dX4_castDays_33 (by decide) ?_
          have eS1 : hPlay (hPn U R P k) R P = hPn U R P (k + 1) := by rfl
          have hP : va_P K.1 vwCl ([(r, .inr (4, [.ref th]))] ++ hw K th ta (hPn U R P (k + 1)) ++ cw K c b D16) H := by rw [← eS1]; exact hP
          have hD : va_D A ([(r, .inr (4, [.ref th]))] ++ hw K th ta (hPn U R P (k + 1)) ++ cw K c b D16) := by rw [← eS1]; exact hD
          exact ih5 (k + 1) D16 _ _ _ (by omega) (by first | omega | assumption | first | rfl | (simp [c_8, c_20]; done) | omega) hP hD hS (lv_cons (lv_at hl 2 rfl) (lv_cons (lv_at hl 3 rfl) (lv_cons (lv_at hl 4 rfl) (lv_cons (lv_is (lv_at hl 1 rfl) (show (dyF U R P k) ||| ((1 : Int32) <<< ((nI k) &&& 31)) = dyF U R P (k + 1) by first | (rw [dyF, if_pos c_20]; done) | (rw [dyF, if_neg c_20]; done))) (lv_cons (lv_at hl 0 rfl) (lv_nil hl))))))
  have eS1 : U = hPn U R P 0 := by rfl
  have hP : va_P K.1 vwCl ([(r, .inr (4, [.ref th]))] ++ hw K th ta (hPn U R P 0) ++ cw K c b C) H := by rw [← eS1]; exact hP
  have hD : va_D A ([(r, .inr (4, [.ref th]))] ++ hw K th ta (hPn U R P 0) ++ cw K c b C) := by rw [← eS1]; exact hD
  exact lp5 _ 0 C _ _ _ (Nat.lt_succ_self _) (by first | omega | assumption | first | rfl | (simp; done) | omega) hP hD hS (lv_cons (lv_at hl 2 rfl) (lv_cons (lv_at hl 3 rfl) (lv_cons (lv_at hl 4 rfl) (lv_cons (lv_is (lv_at hl 1 rfl) (show (0 : Int32) = dyF U R P 0 by rfl)) (lv_cons (lv_is (lv_at hl 0 rfl) (show (0 : Int32) = nI 0 by rfl)) (lv_nil hl))))))

abbrev rm_X4_plays : Room := { frames := 4, cells := 0, slots := 0, locals := 94 }
set_option maxHeartbeats 4000000 in
set_option maxRecDepth 100000 in
theorem c_X4_plays (l : Launch) (K : KX) (r : Nat) (th : Nat) (ta : Nat → Nat) (U : HV) (p : Nat) (hp : p < 2147483648) (q : Nat) (hq : q < 6) (c : Nat) (b : Nat → Nat) (C : HV) (R : Nat) (hR0 : U 10 0 = nI R) (hR0b : R ≤ 6) (P : Nat) (hP0 : U 11 0 = nI P) (hP0b : P ≤ 10) (sz : Nat) : Met l yX4_plays wsX4_plays rm_X4_plays (va_Pc [.ref r, .int (nI p), .int (nI q), .ref c] (xPre K ([(r, .inr (4, [.ref th]))] ++ hw K th ta U ++ cw K c b C) sz)) (va_Qi (fun (r9 : Int32) (u9 : HV) => r9 = bI (p < P ∧ q < R ∧ hCs U R P q = nI p)) (fun u9 t => xPost K (va_A ([(r, .inr (4, [.ref th]))] ++ hw K th ta U ++ cw K c b C) sz) ([(r, .inr (4, [.ref th]))] ++ hw K th ta U ++ cw K c b u9) t) (va_A ([(r, .inr (4, [.ref th]))] ++ hw K th ta U ++ cw K c b C) sz)) 0 0 (va_A ([(r, .inr (4, [.ref th]))] ++ hw K th ta U ++ cw K c b C) sz) := by
  refine xw_startz (cc := cX4_plays) (maxL := 4) (ret := .boolean) (by decide) rfl (Nat.le_of_ble_eq_true rfl) ?_
  intro p9 e9 s9 m9 below9 meth9 c9 H locs ls A av9 Q9 hx hb hlocks hml hname hts hown hK hP hD hS hA hsz hend hl
  have hown : s9.vm.findClass RX4 = some m9.cls := hown
  have hl : lv_has ls 4 [(0, .ref r), (1, .int (nI p)), (2, .int (nI q)), (3, .ref c)] := hl
  have hi4 : ∀ w ∈ u_ws RX4 TX4 1, w ∈ wsX4_plays := by decide +kernel
  have lk12 := hts (.fieldLink RX4 12 "StandIns$Trial" "house" "LStandIns$House;") (by decide +kernel)
  have hfl : frN U P < 1024 := Nat.lt_of_lt_of_le (frN_lt U P) (pw_le hP0b)
  refine lv_aload_n hx hb dX4_plays_0 rfl (lv_at hl 3 rfl) ?_
  refine lv_aload_n hx hb dX4_plays_1 rfl (lv_at hl 0 rfl) ?_
  refine va_get (ci := 4) (v := .ref th) (C := RX4) (T := TX4) (N := 1) hx hb hts hi4 hown hK hP 0 rfl rfl 0 (by decide) lk12 (fun _ h9 => h9) rfl dX4_plays_2 ?_
  refine lv_aload_n hx hb dX4_plays_5 rfl (lv_at hl 0 rfl) ?_
  refine va_get (ci := 4) (v := .ref th) (C := RX4) (T := TX4) (N := 1) hx hb hts hi4 hown hK hP 0 rfl rfl 0 (by decide) lk12 (fun _ h9 => h9) rfl dX4_plays_6 ?_
  have hPc := P_sub (ws' := hw K th ta U) hP [1, 2, 3, 4, 5, 6, 7, 8, 9, 10, 11] rfl
  refine xr_V (As := []) (rest := [.ref th, .ref c]) ⟨hx, hb, hml, hown, hts⟩ (c_X2_freePlayers l K th ta U P hP0 (by omega)) (cwV 0 hts gX4_plays_X2_freePlayers rfl rfl rfl (by decide +kernel) ⟨Nat.le_of_ble_eq_true rfl, Nat.le_of_ble_eq_true rfl⟩) hK hPc 0 2 rfl rfl rfl rfl hl.1 rfl (Nat.le_of_ble_eq_true rfl) (Nat.le_of_ble_eq_true rfl) (Nat.le_of_ble_eq_true rfl) dX4_plays_9 ?_
  refine xw_Vi (As := [.ref th, .int (nI (frN U P))]) (rest := []) (wc := cw K c b C ++ hw K th ta U) (wr := (List.filterMap (fun i => ([(r, .inr (4, [.ref th]))] ++ hw K th ta U ++ cw K c b C : va_W)[i]?) ([0] : List Nat))) ⟨hx, hb, hml, hown, hts⟩ (c_X0_seek l K c b C th ta U (frN U P) (by omega) R hR0 (by omega) P hP0 (by omega) H.size) (cwV 2 hts gX4_plays_X0_seek rfl rfl rfl (by decide +kernel) ⟨Nat.le_of_ble_eq_true rfl, Nat.le_of_ble_eq_true rfl⟩) hK hP hD hS hA [12, 13, 14, 15, 1, 2, 3, 4, 5, 6, 7, 8, 9, 10, 11] [0] [0, 5, 6, 7, 8, 9, 10, 11, 12, 13, 14, 15, 1, 2, 3, 4] rfl rfl rfl (fun C12 => [(r, .inr (4, [.ref th]))] ++ hw K th ta U ++ cw K c b C12) (fun _ => rfl) 0 0 rfl rfl rfl rfl hl.1 rfl (Nat.le_of_ble_eq_true rfl) (Nat.le_of_ble_eq_true rfl) (Nat.le_of_ble_eq_true rfl) dX4_plays_12 (fun r12 C12 H locs hq12 hP hD hS => ?_)
  have hP : va_P K.1 vwCl ([(r, .inr (4, [.ref th]))] ++ hw K th ta U ++ cw K c b C12) H := hP
  have hD : va_D A ([(r, .inr (4, [.ref th]))] ++ hw K th ta U ++ cw K c b C12) := hD
  obtain ⟨rfl, hC12⟩ := hq12
  refine lv_pop hx hb dX4_plays_15 rfl ?_
  refine lv_aload_n hx hb dX4_plays_16 rfl (lv_at hl 0 rfl) ?_
  refine va_get (ci := 4) (v := .ref th) (C := RX4) (T := TX4) (N := 1) hx hb hts hi4 hown hK hP 0 rfl rfl 0 (by decide) lk12 (fun _ h9 => h9) rfl dX4_plays_17 ?_
  refine lv_iload_n hx hb dX4_plays_20 rfl (lv_at hl 1 rfl) ?_
  have hPc := P_sub (ws' := hw K th ta U) hP [1, 2, 3, 4, 5, 6, 7, 8, 9, 10, 11] rfl
  refine xr_V (As := [.int (nI p)]) (rest := []) ⟨hx, hb, hml, hown, hts⟩ (c_X2_hasPlayer_n l K th ta U p (by first | assumption | omega) P hP0 (by omega)) (cwV 1 hts gX4_plays_X2_hasPlayer rfl rfl rfl (by decide +kernel) ⟨Nat.le_of_ble_eq_true rfl, Nat.le_of_ble_eq_true rfl⟩) hK hPc 0 2 rfl rfl rfl rfl hl.1 rfl (Nat.le_of_ble_eq_true rfl) (Nat.le_of_ble_eq_true rfl) (Nat.le_of_ble_eq_true rfl) dX4_plays_21 ?_
  refine xb_if_eq (tgt := 40) hx hb dX4_plays_24 (by decide) (fun c_24 => ?_) (fun c_24 => ?_)
  · skip
    refine lv_iconst (v := (0 : Int32)) hx hb dX4_plays_40 (by decide) ?_
    exact hend _ _ _ _ _ _ _ (by decide) C12 hP hD hS (Nat.le_of_ble_eq_true rfl) (Nat.le_of_ble_eq_true rfl) (by first | rfl | (simp [c_24]; done) | omega) dX4_plays_41
  · skip
    refine lv_aload_n hx hb dX4_plays_27 rfl (lv_at hl 3 rfl) ?_
    refine lv_iload_n hx hb dX4_plays_28 rfl (lv_at hl 2 rfl) ?_
    have hPc := P_sub (ws' := cw K c b C12) hP [12, 13, 14, 15] rfl
    refine xr_V (As := [.int (nI q)]) (rest := []) ⟨hx, hb, hml, hown, hts⟩ (c_X0_playerOf l K c b C12 q (by omega) R hC12.1 (by omega)) (cwV 1 hts gX4_plays_X0_playerOf rfl rfl rfl (by decide +kernel) ⟨Nat.le_of_ble_eq_true rfl, Nat.le_of_ble_eq_true rfl⟩) hK hPc 0 0 rfl rfl rfl rfl hl.1 rfl (Nat.le_of_ble_eq_true rfl) (Nat.le_of_ble_eq_true rfl) (Nat.le_of_ble_eq_true rfl) dX4_plays_29 ?_
    refine lv_iload_n hx hb dX4_plays_32 rfl (lv_at hl 1 rfl) ?_
    refine lv_icmp_ne (tgt := 40) hx hb dX4_plays_33 (by decide) (fun c_33 => ?_) (fun c_33 => ?_)
    · skip
      refine lv_iconst (v := (0 : Int32)) hx hb dX4_plays_40 (by decide) ?_
      exact hend _ _ _ _ _ _ _ (by decide) C12 hP hD hS (Nat.le_of_ble_eq_true rfl) (Nat.le_of_ble_eq_true rfl) (by first | rfl | (simp [c_24, c_33]; done) | omega) dX4_plays_41
    · skip
      refine lv_iconst (v := (1 : Int32)) hx hb dX4_plays_36 (by decide) ?_
      refine lv_goto (tgt := 41) hx hb dX4_plays_37 (by decide) ?_
      exact hend _ _ _ _ _ _ _ (by decide) C12 hP hD hS (Nat.le_of_ble_eq_true rfl) (Nat.le_of_ble_eq_true rfl) (by first | rfl | (simp [c_24, c_33]; done) | omega) dX4_plays_41

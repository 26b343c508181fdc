/-! trials -/
theorem kp_Play {S : HV} {R P j n : Nat} (h : j ≠ 4 ∧ j ≠ 5 ∧ j ≠ 6 ∧ j ≠ 8 ∧ j ≠ 12 ∧ j ≠ 13 ∧ j ≠ 14 ∧ j ≠ 15 ∧ j ≠ 16) (e : S j 0 = nI n) : hPlay S R P j 0 = nI n := by
  unfold hPlay
  rw [hput, hrow_ne _ _ (by omega), hput, hrow_ne _ _ (by omega), hrow_ne _ _ (by omega)]
  split
  · rw [hput, hrow_ne _ _ (by omega), e]
  · rw [hput, hrow_ne _ _ (by omega), hPf_keep S _ j (by omega), e]
theorem kp_Post {S : HV} {R P j n : Nat} (h : j ≠ 2 ∧ j ≠ 16) (e : S j 0 = nI n) : hPost S R P j 0 = nI n := by
  unfold hPost
  rw [hput, hrow_ne _ _ (by omega), hrow_ne _ _ (by omega), e]
theorem kp_Pass {S : HV} {k j n : Nat} (h : j ≠ 6 ∧ j ≠ 12 ∧ j ≠ 16) (e : S j 0 = nI n) : hPass S k j 0 = nI n := by
  unfold hPass
  rw [hput, hrow_ne _ _ (by omega), hput, hrow_ne _ _ (by omega), hrow_ne _ _ (by omega), e]
theorem kp_Away {S : HV} {p d j n : Nat} (h : j ≠ 7) (e : S j 0 = nI n) : hAway S p d j 0 = nI n := by
  unfold hAway
  rw [hset, hrow_ne _ _ (by omega), e]
theorem kp_ite {c : Prop} [Decidable c] {A B : HV} {j n : Nat} (a : A j 0 = nI n) (b : B j 0 = nI n) : (if c then A else B) j 0 = nI n := by
  split
  · exact a
  · exact b
def hPn (S : HV) (R P : Nat) : Nat → HV | 0 => S | k + 1 => hPlay (hPn S R P k) R P
theorem kp_Pn {S : HV} {R P j n : Nat} (h : j ≠ 4 ∧ j ≠ 5 ∧ j ≠ 6 ∧ j ≠ 8 ∧ j ≠ 12 ∧ j ≠ 13 ∧ j ≠ 14 ∧ j ≠ 15 ∧ j ≠ 16) (e : S j 0 = nI n) : ∀ k, hPn S R P k j 0 = nI n
  | 0 => e
  | k + 1 => kp_Play h (kp_Pn h e k)
def dyF (S : HV) (R P : Nat) : Nat → Int32 | 0 => 0 | k + 1 => if hPaid (hPn S R P k) R P = -1 then dyF S R P k else dyF S R P k ||| ((1 : Int32) <<< (nI k &&& 31))
/-- who plays a role: of the cast of today -/
abbrev hCs (S : HV) (R P r : Nat) : Int32 := csF (wFr S (frN S P)) R P r

abbrev rm_X4_begin : Room := { frames := 2, cells := 0, slots := 0, locals := 43 }
set_option maxHeartbeats 4000000 in
set_option maxRecDepth 100000 in
theorem c_X4_begin (l : Launch) (K : KX) (r : Nat) (th : Nat) (ta : Nat → Nat) (U : HV) (h : Nat) (a : Nat → Nat) (S : HV) (hz : S 16 0 = 0 ∨ S 16 0 = 1) (sz : Nat) : Met l yX4_begin wsX4_begin rm_X4_begin (va_Pc [.ref r, .ref h] (xPre K ([(r, .inr (4, [.ref th]))] ++ hw K th ta U ++ hw K h a S) sz)) (va_Qv (fun _u : Unit => True) (fun _u t => xPost K (va_A ([(r, .inr (4, [.ref th]))] ++ hw K th ta U ++ hw K h a S) sz) ([(r, .inr (4, [.ref th]))] ++ hw K th ta S ++ hw K h a S) t) (va_A ([(r, .inr (4, [.ref th]))] ++ hw K th ta U ++ hw K h a S) sz)) 0 0 (va_A ([(r, .inr (4, [.ref th]))] ++ hw K th ta U ++ hw K h a S) sz) := by
  refine xw_startv (cc := cX4_begin) (maxL := 2) (by decide) rfl (Nat.le_of_ble_eq_true rfl) ?_
  intro p9 e9 s9 m9 below9 meth9 c9 H locs ls A av9 Q9 hx hb hlocks hml hname hts hown hK hP hD hS hA hsz hend hl
  have hown : s9.vm.findClass RX4 = some m9.cls := hown
  have hl : lv_has ls 2 [(0, .ref r), (1, .ref h)] := hl
  have hi4 : ∀ w ∈ u_ws RX4 TX4 1, w ∈ wsX4_begin := by decide +kernel
  have lk12 := hts (.fieldLink RX4 12 "StandIns$Trial" "house" "LStandIns$House;") (by decide +kernel)
  refine lv_aload_n hx hb dX4_begin_0 rfl (lv_at hl 0 rfl) ?_
  refine va_get (ci := 4) (v := .ref th) (C := RX4) (T := TX4) (N := 1) hx hb hts hi4 hown hK hP 0 rfl rfl 0 (by decide) lk12 (fun _ h9 => h9) rfl dX4_begin_1 ?_
  refine lv_aload_n hx hb dX4_begin_4 rfl (lv_at hl 1 rfl) ?_
  refine xw_Vv (As := [.ref h]) (rest := []) (wc := hw K th ta U ++ hw K h a S) (wr := (List.filterMap (fun i => ([(r, .inr (4, [.ref th]))] ++ hw K th ta U ++ hw K h a S : va_W)[i]?) ([0] : List Nat))) ⟨hx, hb, hml, hown, hts⟩ (c_X2_copyFrom l K th ta U h a S (by first | assumption | omega) H.size) (cwV 1 hts gX4_begin_X2_copyFrom rfl rfl rfl (by decide +kernel) ⟨Nat.le_of_ble_eq_true rfl, Nat.le_of_ble_eq_true rfl⟩) hK hP hD hS hA [1, 2, 3, 4, 5, 6, 7, 8, 9, 10, 11, 12, 13, 14, 15, 16, 17, 18, 19, 20, 21, 22] [0] [0, 1, 2, 3, 4, 5, 6, 7, 8, 9, 10, 11, 12, 13, 14, 15, 16, 17, 18, 19, 20, 21, 22] rfl rfl rfl (fun _u => [(r, .inr (4, [.ref th]))] ++ hw K th ta S ++ hw K h a S) (fun _ => rfl) 0 2 rfl rfl rfl rfl hl.1 rfl (Nat.le_of_ble_eq_true rfl) (Nat.le_of_ble_eq_true rfl) (Nat.le_of_ble_eq_true rfl) dX4_begin_5 (fun _ H locs hq5 hP hD hS => ?_)
  have hP : va_P K.1 vwCl ([(r, .inr (4, [.ref th]))] ++ hw K th ta S ++ hw K h a S) H := hP
  have hD : va_D A ([(r, .inr (4, [.ref th]))] ++ hw K th ta S ++ hw K h a S) := hD
  exact hend _ _ _ _ _ _ () hP hD hS (Nat.le_of_ble_eq_true rfl) (Nat.le_of_ble_eq_true rfl) trivial dX4_begin_8

abbrev rm_X4_castDays : Room := { frames := 5, cells := 0, slots := 0, locals := 117 }
set_option maxHeartbeats 4000000 in
set_option maxRecDepth 100000 in
theorem c_X4_castDays (l : Launch) (K : KX) (r : Nat) (th : Nat) (ta : Nat → Nat) (U : HV) (n : Nat) (hn : n < 31) (c : Nat) (b : Nat → Nat) (C : HV) (R : Nat) (hR0 : U 10 0 = nI R) (hR0b : R ≤ 6) (P : Nat) (hP0 : U 11 0 = nI P) (hP0b : P ≤ 10) (sz : Nat) : Met l yX4_castDays wsX4_castDays rm_X4_castDays (va_Pc [.ref r, .int (nI n), .ref c] (xPre K ([(r, .inr (4, [.ref th]))] ++ hw K th ta U ++ cw K c b C) sz)) (va_Qi (fun (r9 : Int32) (u9 : HV) => r9 = dyF U R P n) (fun u9 t => xPost K (va_A ([(r, .inr (4, [.ref th]))] ++ hw K th ta U ++ cw K c b C) sz) ([(r, .inr (4, [.ref th]))] ++ hw K th ta (hPn U R P n) ++ cw K c b u9) t) (va_A ([(r, .inr (4, [.ref th]))] ++ hw K th ta U ++ cw K c b C) sz)) 0 0 (va_A ([(r, .inr (4, [.ref th]))] ++ hw K th ta U ++ cw K c b C) sz) := by
  refine xw_starti (cc := cX4_castDays) (maxL := 5) (by decide) rfl (Nat.le_of_ble_eq_true rfl) ?_
  intro p9 e9 s9 m9 below9 meth9 c9 H locs ls A av9 Q9 hx hb hlocks hml hname hts hown hK hP hD hS hA hsz hend hl
  have hown : s9.vm.findClass RX4 = some m9.cls := hown
  have hl : lv_has ls 5 [(0, .ref r), (1, .int (nI n)), (2, .ref c)] := hl
  have hi4 : ∀ w ∈ u_ws RX4 TX4 1, w ∈ wsX4_castDays := by decide +kernel
  have lk12 := hts (.fieldLink RX4 12 "StandIns$Trial" "house" "LStandIns$House;") (by decide +kernel)
  refine lv_iconst (v := (0 : Int32)) hx hb dX4_castDays_0 (by decide) ?_
  refine lv_istore_n (lv' := [(3, .int (0 : Int32)), (0, .ref r), (1, .int (nI n)), (2, .ref c)]) hx hb dX4_castDays_1 rfl hl (by decide) rfl (fun ls hl => ?_)
  refine lv_iconst (v := (0 : Int32)) hx hb dX4_castDays_2 (by decide) ?_
  refine lv_istore (lv' := [(4, .int (0 : Int32)), (3, .int (0 : Int32)), (0, .ref r), (1, .int (nI n)), (2, .ref c)]) hx hb dX4_castDays_3 hl (by decide) rfl (fun ls hl => ?_)
  have lp5 : ∀ (n9 : Nat) (k : Nat) (E : HV) (H : Heap) (locs : List Loc) (ls : Array Slot), n - k < n9 → (k ≤ n) → va_P K.1 vwCl ([(r, .inr (4, [.ref th]))] ++ hw K th ta (hPn U R P k) ++ cw K c b E) H → va_D A ([(r, .inr (4, [.ref th]))] ++ hw K th ta (hPn U R P k) ++ cw K c b E) → va_S A s9.heap H locs → lv_has ls 5 [(0, .ref r), (1, .int (nI n)), (2, .ref c), (3, .int (dyF U R P k)), (4, .int (nI k))] → W p9 l e9 rm_X4_castDays s9 m9 av9 below9 meth9 c9 H locs 0 0 Q9 (F0 m9 5 ls []) := by
    intro n9
    induction n9 with
    | zero => intro k E H locs ls hmu hk hP hD hS hl; exact absurd hmu (Nat.not_lt_zero _)
    | succ n9 ih5 =>
      intro k E H locs ls hmu hk hP hD hS hl
      refine lv_iload hx hb dX4_castDays_5 (lv_at hl 4 rfl) ?_
      refine lv_iload_n hx hb dX4_castDays_7 rfl (lv_at hl 1 rfl) ?_
      refine xn_icmp_ge (tgt := 36) hx hb k n rfl rfl (by omega) (by omega) dX4_castDays_8 (by decide) (fun c_8 => ?_) (fun c_8 => ?_)
      · skip
        refine lv_iload_n hx hb dX4_castDays_36 rfl (lv_at hl 3 rfl) ?_
        have eS1 : (hPn U R P k) = hPn U R P n := by rw [show k = n by omega]
        rw [eS1] at hP hD
        exact hend _ _ _ _ _ _ _ E hP hD hS (Nat.le_of_ble_eq_true rfl) (Nat.le_of_ble_eq_true rfl) (by rw [show k = n by omega]) dX4_castDays_37
      · skip
        refine lv_aload_n hx hb dX4_castDays_11 rfl (lv_at hl 0 rfl) ?_
        refine va_get (ci := 4) (v := .ref th) (C := RX4) (T := TX4) (N := 1) hx hb hts hi4 hown hK hP 0 rfl rfl 0 (by decide) lk12 (fun _ h9 => h9) rfl dX4_castDays_12 ?_
        refine lv_aload_n hx hb dX4_castDays_15 rfl (lv_at hl 2 rfl) ?_
        refine xw_Vi (As := [.ref c]) (rest := []) (wc := hw K th ta (hPn U R P k) ++ cw K c b E) (wr := (List.filterMap (fun i => ([(r, .inr (4, [.ref th]))] ++ hw K th ta (hPn U R P k) ++ cw K c b E : va_W)[i]?) ([0] : List Nat))) ⟨hx, hb, hml, hown, hts⟩ (c_X2_playDay l K th ta (hPn U R P k) c b E R (kp_Pn (by decide) hR0 k) (by omega) P (kp_Pn (by decide) hP0 k) (by omega) H.size) (cwV 1 hts gX4_castDays_X2_playDay rfl rfl rfl (by decide +kernel) ⟨Nat.le_of_ble_eq_true rfl, Nat.le_of_ble_eq_true rfl⟩) hK hP hD hS hA [1, 2, 3, 4, 5, 6, 7, 8, 9, 10, 11, 12, 13, 14, 15] [0] [0, 1, 2, 3, 4, 5, 6, 7, 8, 9, 10, 11, 12, 13, 14, 15] rfl rfl rfl (fun D16 => [(r, .inr (4, [.ref th]))] ++ hw K th ta (hPlay (hPn U R P k) R P) ++ cw K c b D16) (fun _ => rfl) 0 2 rfl rfl rfl rfl hl.1 rfl (Nat.le_of_ble_eq_true rfl) (Nat.le_of_ble_eq_true rfl) (Nat.le_of_ble_eq_true rfl) dX4_castDays_16 (fun r16 D16 H locs hq16 hP hD hS => ?_)
        have hP : va_P K.1 vwCl ([(r, .inr (4, [.ref th]))] ++ hw K th ta (hPlay (hPn U R P k) R P) ++ cw K c b D16) H := hP
        have hD : va_D A ([(r, .inr (4, [.ref th]))] ++ hw K th ta (hPlay (hPn U R P k) R P) ++ cw K c b D16) := hD
        subst hq16
        refine lv_iconst (v := (-1 : Int32)) hx hb dX4_castDays_19 (by decide) ?_
        refine lv_icmp_eq (tgt := 30) hx hb dX4_castDays_20 (by decide) (fun c_20 => ?_) (fun c_20 => ?_)
        · skip
          refine lv_iinc (v := nI (k + 1)) (lv' := [(4, .int (nI (k + 1))), (0, .ref r), (1, .int (nI n)), (2, .ref c), (3, .int (dyF U R P k))]) hx hb dX4_castDays_30 hl (k := 4) rfl (nI_1 _) (by decide) rfl (fun ls hl => ?_)
          refine lv_goto (tgt := 5) hx hb dX4_castDays_33 (by decide) ?_
          have eS1 : (hPlay (hPn U R P k) R P) = hPn U R P (k + 1) := by rfl
          have hP : va_P K.1 vwCl ([(r, .inr (4, [.ref th]))] ++ hw K th ta (hPn U R P (k + 1)) ++ cw K c b D16) H := by rw [← eS1]; exact hP
          have hD : va_D A ([(r, .inr (4, [.ref th]))] ++ hw K th ta (hPn U R P (k + 1)) ++ cw K c b D16) := by rw [← eS1]; exact hD
          exact ih5 (k + 1) D16 _ _ _ (by omega) (by first | omega | assumption | first | rfl | (simp [c_8, c_20]; done) | omega) hP hD hS (lv_cons (lv_at hl 1 rfl) (lv_cons (lv_at hl 2 rfl) (lv_cons (lv_at hl 3 rfl) (lv_cons (lv_is (lv_at hl 4 rfl) (show dyF U R P k = dyF U R P (k + 1) by first | (rw [dyF, if_pos c_20]; done) | (rw [dyF, if_neg c_20]; done))) (lv_cons (lv_at hl 0 rfl) (lv_nil hl))))))
        · skip
          refine lv_iload_n hx hb dX4_castDays_23 rfl (lv_at hl 3 rfl) ?_
          refine lv_iconst (v := (1 : Int32)) hx hb dX4_castDays_24 (by decide) ?_
          refine lv_iload hx hb dX4_castDays_25 (lv_at hl 4 rfl) ?_
          refine lv_ishl hx hb dX4_castDays_27 ?_
          refine lv_ior hx hb dX4_castDays_28 ?_
          refine lv_istore_n (lv' := [(3, .int ((dyF U R P k) ||| ((1 : Int32) <<< ((nI k) &&& 31)))), (0, .ref r), (1, .int (nI n)), (2, .ref c), (4, .int (nI k))]) hx hb dX4_castDays_29 rfl hl (by decide) rfl (fun ls hl => ?_)
          refine lv_iinc (v := nI (k + 1)) (lv' := [(4, .int (nI (k + 1))), (3, .int ((dyF U R P k) ||| ((1 : Int32) <<< ((nI k) &&& 31)))), (0, .ref r), (1, .int (nI n)), (2, .ref c)]) hx hb dX4_castDays_30 hl (k := 4) rfl (nI_1 _) (by decide) rfl (fun ls hl => ?_)
          refine lv_goto (tgt := 5) hx hb dX4_castDays_33 (by decide) ?_
          have eS1 : (hPlay (hPn U R P k) R P) = hPn U R P (k + 1) := by rfl
          have hP : va_P K.1 vwCl ([(r, .inr (4, [.ref th]))] ++ hw K th ta (hPn U R P (k + 1)) ++ cw K c b D16) H := by rw [← eS1]; exact hP
          have hD : va_D A ([(r, .inr (4, [.ref th]))] ++ hw K th ta (hPn U R P (k + 1)) ++ cw K c b D16) := by rw [← eS1]; exact hD
          exact ih5 (k + 1) D16 _ _ _ (by omega) (by first | omega | assumption | first | rfl | (simp [c_8, c_20]; done) | omega) hP hD hS (lv_cons (lv_at hl 2 rfl) (lv_cons (lv_at hl 3 rfl) (lv_cons (lv_at hl 4 rfl) (lv_cons (lv_is (lv_at hl 1 rfl) (show (dyF U R P k) ||| ((1 : Int32) <<< ((nI k) &&& 31)) = dyF U R P (k + 1) by first | (rw [dyF, if_pos c_20]; done) | (rw [dyF, if_neg c_20]; done))) (lv_cons (lv_at hl 0 rfl) (lv_nil hl))))))
  have eS1 : (U) = hPn U R P 0 := by rfl
  have hP : va_P K.1 vwCl ([(r, .inr (4, [.ref th]))] ++ hw K th ta (hPn U R P 0) ++ cw K c b C) H := by rw [← eS1]; exact hP
  have hD : va_D A ([(r, .inr (4, [.ref th]))] ++ hw K th ta (hPn U R P 0) ++ cw K c b C) := by rw [← eS1]; exact hD
  exact lp5 _ 0 C _ _ _ (Nat.lt_succ_self _) (by first | omega | assumption | first | rfl | (simp; done) | omega) hP hD hS (lv_cons (lv_at hl 2 rfl) (lv_cons (lv_at hl 3 rfl) (lv_cons (lv_at hl 4 rfl) (lv_cons (lv_is (lv_at hl 1 rfl) (show (0 : Int32) = dyF U R P 0 by rfl)) (lv_cons (lv_is (lv_at hl 0 rfl) (show (0 : Int32) = nI 0 by rfl)) (lv_nil hl))))))

theorem lN_toInt6 {n : Nat} (h : n < 2 ^ 63) : (lN n).toInt = (n : Int) := lg_ofNat_toInt h
theorem lN_div {a b : Nat} (ha : a < 2 ^ 63) (h0 : 0 < b) (hb : b < 2 ^ 63) : lN a / lN b = lN (a / b) := by
  have h1 : a / b < 2 ^ 63 := Nat.lt_of_le_of_lt (Nat.div_le_self a b) ha
  apply Int64.toInt_inj.mp
  have h2 : (lN a / lN b).toInt = ((lN a).toInt.tdiv (lN b).toInt).bmod (2 ^ 64) := Int64.toInt_div _ _
  rw [h2, lN_toInt6 ha, lN_toInt6 hb, lN_toInt6 h1]
  have h3 : ((a : Int).tdiv (b : Int)) = ((a / b : Nat) : Int) := (Int.ofNat_tdiv a b).symm
  rw [h3]
  generalize a / b = q at *
  exact Int.bmod_eq_of_le (by omega) (by omega)
theorem lN_rem {a b : Nat} (ha : a < 2 ^ 63) (h0 : 0 < b) (hb : b < 2 ^ 63) : lN a - lN a / lN b * lN b = lN (a % b) := by
  rw [lN_div ha h0 hb, lN_mul, lN_sub (Nat.div_mul_le_self a b)]
  exact congrArg lN (by have := Nat.div_add_mod' a b; omega)
def rN (x : Int64) : Nat := x.toUInt64.toNat / 2 ^ 33
theorem rN_lt (x : Int64) : rN x < 2 ^ 31 := by
  have h := x.toUInt64.toNat_lt
  unfold rN
  omega
theorem rN_eq (x : Int64) : ((x.toUInt64 >>> (((33 : Int32).toInt64).toUInt64 &&& Int64.toUInt64 63)).toInt64).toInt32 = nI (rN x) := by
  have e : (((33 : Int32).toInt64).toUInt64 &&& Int64.toUInt64 63) = (33 : UInt64) := by decide
  rw [e]
  have h : (x.toUInt64 >>> (33 : UInt64)).toInt64 = lN (rN x) := by
    apply Int64.toBitVec_inj.1
    show (x.toUInt64 >>> (33 : UInt64)).toBitVec = BitVec.ofNat 64 (rN x)
    apply BitVec.eq_of_toNat_eq
    show (x.toUInt64 >>> (33 : UInt64)).toNat = _
    rw [UInt64.toNat_shiftRight, BitVec.toNat_ofNat, Nat.shiftRight_eq_div_pow, Nat.mod_eq_of_lt (Nat.lt_trans (rN_lt x) (by decide))]
    rfl
  rw [h, lN_i]
theorem hset_hset (S : HV) (k i : Nat) (x y : Int32) : hset (hset S k i x) k i y = hset S k i y := by
  unfold hset
  rw [hrow_hrow, hrow_self, upd_upd]
theorem hset_same (S : HV) (k i : Nat) : S = hset S k i (S k i) := by
  unfold hset
  rw [show upd (S k) i (S k i) = S k from ?_, hrow_same]
  funext j
  unfold upd
  split <;> simp_all
theorem plays_r {U D : HV} {R P p q : Nat} (hp : p < 2147483648) (h : castOK (wFr U (frN U P)) R P D) : ((if q < R then D 2 q else -1) = nI p) ↔ (q < R ∧ hCs U R P q = nI p) := by
  by_cases c : q < R
  · rw [if_pos c, h.2 q c]
    exact ⟨fun e => ⟨c, e⟩, fun e => e.2⟩
  · rw [if_neg c]
    exact ⟨fun e => absurd e.symm (nI_m1 (by omega)), fun e => absurd e.1 c⟩
def sucB (S : HV) (R P g : Nat) : Bool :=
  if g / 1000 = 1 then decide (g / 100 % 10 < P ∧ g / 10 % 10 < R) else
  if g / 1000 = 2 then decide (g % 10 = 0 ∧ g / 10 % 10 < P ∧ g / 100 % 10 < R) else
  if g / 1000 = 3 then decide (g / 10 % 10 = 0 ∧ g / 100 % 10 < P ∧ 1 ≤ g % 10 ∧ g % 10 ≤ 99) else
  if g / 1000 = 4 then decide (g = 4000 ∧ R ≠ 0 ∧ hStr S R P ≠ -1) else
  if g / 1000 = 5 then decide (g = 5000 ∧ 0 < R ∧ ¬ hPaid S R P = -1) else
  if g / 1000 = 6 then decide (g / 100 % 10 = 0 ∧ 1 ≤ 10 * (g / 10 % 10) + g % 10 ∧ 10 * (g / 10 % 10) + g % 10 ≤ 99) else
  if g / 1000 = 7 then decide (g % 10 = 0 ∧ g / 10 % 10 < P ∧ g / 100 % 10 < R ∧ hCs S R P (g / 100 % 10) = nI (g / 10 % 10)) else
  if g / 1000 = 8 then decide (¬ hStr S R P < nI (g % 1000)) else
  if g / 1000 = 9 then decide (g / 100 % 10 < P ∧ ¬ S 5 (g / 100 % 10) < nI (g % 100)) else false
def sucS (S : HV) (R P g : Nat) : HV :=
  if g / 1000 = 1 then (if g / 100 % 10 < P ∧ g / 10 % 10 < R then hset S 3 (g / 10 % 10 * 10 + g / 100 % 10) (nI (g % 10)) else S) else
  if g / 1000 = 2 then (if g % 10 = 0 then (if g / 10 % 10 < P ∧ g / 100 % 10 < R then hset S 1 (g / 100 % 10) (nI (g / 10 % 10)) else S) else S) else
  if g / 1000 = 3 then (if g / 10 % 10 = 0 then (if g / 100 % 10 < P ∧ 1 ≤ g % 10 ∧ g % 10 ≤ 99 then hAway S (g / 100 % 10) (g % 10) else S) else S) else
  if g / 1000 = 4 then (if g = 4000 then (if R ≠ 0 ∧ hStr S R P ≠ -1 then hPost S R P else S) else S) else
  if g / 1000 = 5 then (if g = 5000 then (if 0 < R then hPlay S R P else S) else S) else
  if g / 1000 = 6 then (if g / 100 % 10 = 0 then (if 1 ≤ 10 * (g / 10 % 10) + g % 10 ∧ 10 * (g / 10 % 10) + g % 10 ≤ 99 then hPass S (10 * (g / 10 % 10) + g % 10) else S) else S) else S
theorem kp_set {S : HV} {k i j n : Nat} {x : Int32} (h : j ≠ k) (e : S j 0 = nI n) : hset S k i x j 0 = nI n := by
  unfold hset
  rw [hrow_ne _ _ h, e]
theorem kp_suc {S : HV} {R P g j n : Nat} (h : j = 10 ∨ j = 11) (e : S j 0 = nI n) : sucS S R P g j 0 = nI n := by
  unfold sucS
  repeat' split
  all_goals first | exact e | exact kp_set (by omega) e | exact kp_Away (by omega) e | exact kp_Post (by omega) e | exact kp_Play (by omega) e | exact kp_Pass (by omega) e
def ffS (S : HV) (R P n s : Nat) : Nat → HV | 0 => S | i + 1 => sucS (ffS S R P n s i) R P (s / 10000 ^ (n - 1 - i) % 10000)
theorem kp_ff {S : HV} {R P m s j n : Nat} (h : j = 10 ∨ j = 11) (e : S j 0 = nI n) : ∀ i, ffS S R P m s i j 0 = nI n
  | 0 => e
  | i + 1 => kp_suc h (kp_ff h e i)
def ldF (U : HV) (R P p r : Nat) : Nat → Bool := fun d => decide (p < P ∧ r < R ∧ hCs (hset U 3 (r * 10 + p) (nI d)) R P r = nI p)
def ffF (U : HV) (R P n s : Nat) : Nat → Bool := fun i => !sucB (ffS U R P n s i) R P (s / 10000 ^ (n - 1 - i) % 10000)
def sdS (S : HV) (R P r : Nat) : HV :=
  if r % 8 = 0 then hPlay (if r / 8 % P < P ∧ 1 ≤ 1 + r / 128 % 5 ∧ 1 + r / 128 % 5 ≤ 99 then hAway S (r / 8 % P) (1 + r / 128 % 5) else S) R P else
  if r % 8 = 1 then hPlay (if r / 8 % P < P ∧ 1 ≤ 1 ∧ 1 ≤ 99 then hAway (if R ≠ 0 ∧ hStr S R P ≠ -1 then hPost S R P else S) (r / 8 % P) 1 else (if R ≠ 0 ∧ hStr S R P ≠ -1 then hPost S R P else S)) R P else
  if r % 8 = 2 then (if 1 ≤ 1 ∧ 1 ≤ 99 then hPass S 1 else S) else hPlay S R P
theorem kp_sd {S : HV} {R P r j n : Nat} (h : j = 10 ∨ j = 11) (e : S j 0 = nI n) : sdS S R P r j 0 = nI n := by
  unfold sdS
  split
  · refine kp_Play (by omega) (kp_ite (kp_Away (by omega) e) e)
  · split
    · refine kp_Play (by omega) (kp_ite (kp_Away (by omega) (kp_ite (kp_Post (by omega) e) e)) (kp_ite (kp_Post (by omega) e) e))
    · split
      · exact kp_ite (kp_Pass (by omega) e) e
      · exact kp_Play (by omega) e
def smX (x : Int64) : Nat → Int64 | 0 => x | k + 1 => smX x k * 6364136223846793005 + 1442695040888963407
def smS (S : HV) (R P : Nat) (x : Int64) : Nat → HV | 0 => S | k + 1 => sdS (smS S R P x k) R P (rN (smX x (k + 1)))
theorem kp_sm {S : HV} {R P j n : Nat} {x : Int64} (h : j = 10 ∨ j = 11) (e : S j 0 = nI n) : ∀ k, smS S R P x k j 0 = nI n
  | 0 => e
  | k + 1 => kp_sd h (kp_sm h e k)
def simR (U : HV) (R P : Nat) (x : Int64) (m : Nat) : Int32 := if P = 0 ∨ R = 0 then 0 else 1000 * (smS U R P x m 13 0 - U 13 0) + smS U R P x m 14 0 - U 14 0

abbrev rm_X4_plays : Room := { frames := 4, cells := 0, slots := 0, locals := 94 }
set_option maxHeartbeats 4000000 in
set_option maxRecDepth 100000 in
theorem c_X4_plays (l : Launch) (K : KX) (r : Nat) (th : Nat) (ta : Nat → Nat) (U : HV) (p : Nat) (hp : p < 2147483648) (q : Nat) (hq : q < 2147483648) (c : Nat) (b : Nat → Nat) (C : HV) (R : Nat) (hR0 : U 10 0 = nI R) (hR0b : R ≤ 6) (P : Nat) (hP0 : U 11 0 = nI P) (hP0b : P ≤ 10) (sz : Nat) : Met l yX4_plays wsX4_plays rm_X4_plays (va_Pc [.ref r, .int (nI p), .int (nI q), .ref c] (xPre K ([(r, .inr (4, [.ref th]))] ++ hw K th ta U ++ cw K c b C) sz)) (va_Qi (fun (r9 : Int32) (u9 : HV) => r9 = bI (p < P ∧ q < R ∧ hCs U R P q = nI p)) (fun u9 t => xPost K (va_A ([(r, .inr (4, [.ref th]))] ++ hw K th ta U ++ cw K c b C) sz) ([(r, .inr (4, [.ref th]))] ++ hw K th ta U ++ cw K c b u9) t) (va_A ([(r, .inr (4, [.ref th]))] ++ hw K th ta U ++ cw K c b C) sz)) 0 0 (va_A ([(r, .inr (4, [.ref th]))] ++ hw K th ta U ++ cw K c b C) sz) := by
  refine xw_startz (cc := cX4_plays) (maxL := 4) (ret := .boolean) (by decide) rfl (Nat.le_of_ble_eq_true rfl) ?_
  intro p9 e9 s9 m9 below9 meth9 c9 H locs ls A av9 Q9 hx hb hlocks hml hname hts hown hK hP hD hS hA hsz hend hl
  have hown : s9.vm.findClass RX4 = some m9.cls := hown
  have hl : lv_has ls 4 [(0, .ref r), (1, .int (nI p)), (2, .int (nI q)), (3, .ref c)] := hl
  have hi4 : ∀ w ∈ u_ws RX4 TX4 1, w ∈ wsX4_plays := by decide +kernel
  have lk12 := hts (.fieldLink RX4 12 "StandIns$Trial" "house" "LStandIns$House;") (by decide +kernel)
  have hfl : frN U P < 1024 := Nat.lt_of_lt_of_le (frN_lt U P) (pw_le hP0b)
  refine lv_aload_n hx hb dX4_plays_0 rfl (lv_at hl 3 rfl) ?_
  refine lv_aload_n hx hb dX4_plays_1 rfl (lv_at hl 0 rfl) ?_
  refine va_get (ci := 4) (v := .ref th) (C := RX4) (T := TX4) (N := 1) hx hb hts hi4 hown hK hP 0 rfl rfl 0 (by decide) lk12 (fun _ h9 => h9) rfl dX4_plays_2 ?_
  refine lv_aload_n hx hb dX4_plays_5 rfl (lv_at hl 0 rfl) ?_
  refine va_get (ci := 4) (v := .ref th) (C := RX4) (T := TX4) (N := 1) hx hb hts hi4 hown hK hP 0 rfl rfl 0 (by decide) lk12 (fun _ h9 => h9) rfl dX4_plays_6 ?_
  have hPc := P_sub (ws' := hw K th ta U) hP [1, 2, 3, 4, 5, 6, 7, 8, 9, 10, 11] rfl
  refine xr_V (As := []) (rest := [.ref th, .ref c]) ⟨hx, hb, hml, hown, hts⟩ (c_X2_freePlayers l K th ta U P hP0 (by omega)) (cwV 0 hts gX4_plays_X2_freePlayers rfl rfl rfl (by decide +kernel) ⟨Nat.le_of_ble_eq_true rfl, Nat.le_of_ble_eq_true rfl⟩) hK hPc 0 2 rfl rfl rfl rfl hl.1 rfl (Nat.le_of_ble_eq_true rfl) (Nat.le_of_ble_eq_true rfl) (Nat.le_of_ble_eq_true rfl) dX4_plays_9 ?_
  refine xw_Vi (As := [.ref th, .int (nI (frN U P))]) (rest := []) (wc := cw K c b C ++ hw K th ta U) (wr := (List.filterMap (fun i => ([(r, .inr (4, [.ref th]))] ++ hw K th ta U ++ cw K c b C : va_W)[i]?) ([0] : List Nat))) ⟨hx, hb, hml, hown, hts⟩ (c_X0_seek l K c b C th ta U (frN U P) (by omega) R hR0 (by omega) P hP0 (by omega) H.size) (cwV 2 hts gX4_plays_X0_seek rfl rfl rfl (by decide +kernel) ⟨Nat.le_of_ble_eq_true rfl, Nat.le_of_ble_eq_true rfl⟩) hK hP hD hS hA [12, 13, 14, 15, 1, 2, 3, 4, 5, 6, 7, 8, 9, 10, 11] [0] [0, 5, 6, 7, 8, 9, 10, 11, 12, 13, 14, 15, 1, 2, 3, 4] rfl rfl rfl (fun C12 => [(r, .inr (4, [.ref th]))] ++ hw K th ta U ++ cw K c b C12) (fun _ => rfl) 0 0 rfl rfl rfl rfl hl.1 rfl (Nat.le_of_ble_eq_true rfl) (Nat.le_of_ble_eq_true rfl) (Nat.le_of_ble_eq_true rfl) dX4_plays_12 (fun r12 C12 H locs hq12 hP hD hS => ?_)
  have hP : va_P K.1 vwCl ([(r, .inr (4, [.ref th]))] ++ hw K th ta U ++ cw K c b C12) H := hP
  have hD : va_D A ([(r, .inr (4, [.ref th]))] ++ hw K th ta U ++ cw K c b C12) := hD
  obtain ⟨rfl, hC12⟩ := hq12
  refine lv_pop hx hb dX4_plays_15 rfl ?_
  refine lv_aload_n hx hb dX4_plays_16 rfl (lv_at hl 0 rfl) ?_
  refine va_get (ci := 4) (v := .ref th) (C := RX4) (T := TX4) (N := 1) hx hb hts hi4 hown hK hP 0 rfl rfl 0 (by decide) lk12 (fun _ h9 => h9) rfl dX4_plays_17 ?_
  refine lv_iload_n hx hb dX4_plays_20 rfl (lv_at hl 1 rfl) ?_
  have hPc := P_sub (ws' := hw K th ta U) hP [1, 2, 3, 4, 5, 6, 7, 8, 9, 10, 11] rfl
  refine xr_V (As := [.int (nI p)]) (rest := []) ⟨hx, hb, hml, hown, hts⟩ (c_X2_hasPlayer_n l K th ta U p (by first | assumption | omega) P hP0 (by omega)) (cwV 1 hts gX4_plays_X2_hasPlayer rfl rfl rfl (by decide +kernel) ⟨Nat.le_of_ble_eq_true rfl, Nat.le_of_ble_eq_true rfl⟩) hK hPc 0 2 rfl rfl rfl rfl hl.1 rfl (Nat.le_of_ble_eq_true rfl) (Nat.le_of_ble_eq_true rfl) (Nat.le_of_ble_eq_true rfl) dX4_plays_21 ?_
  refine xb_if_eq (tgt := 40) hx hb dX4_plays_24 (by decide) (fun c_24 => ?_) (fun c_24 => ?_)
  · skip
    have hn : ¬ (p < P ∧ q < R ∧ hCs U R P q = nI p) := fun z => c_24 z.1
    refine lv_iconst (v := (0 : Int32)) hx hb dX4_plays_40 (by decide) ?_
    exact hend _ _ _ _ _ _ _ (by decide) C12 hP hD hS (Nat.le_of_ble_eq_true rfl) (Nat.le_of_ble_eq_true rfl) (by first | exact (bI_f hn).symm | exact (bI_t hp3).symm) dX4_plays_41
  · skip
    refine lv_aload_n hx hb dX4_plays_27 rfl (lv_at hl 3 rfl) ?_
    refine lv_iload_n hx hb dX4_plays_28 rfl (lv_at hl 2 rfl) ?_
    have hPc := P_sub (ws' := cw K c b C12) hP [12, 13, 14, 15] rfl
    refine xr_V (As := [.int (nI q)]) (rest := []) ⟨hx, hb, hml, hown, hts⟩ (c_X0_playerOf l K c b C12 q (by omega) R hC12.1 (by omega)) (cwV 1 hts gX4_plays_X0_playerOf rfl rfl rfl (by decide +kernel) ⟨Nat.le_of_ble_eq_true rfl, Nat.le_of_ble_eq_true rfl⟩) hK hPc 0 0 rfl rfl rfl rfl hl.1 rfl (Nat.le_of_ble_eq_true rfl) (Nat.le_of_ble_eq_true rfl) (Nat.le_of_ble_eq_true rfl) dX4_plays_29 ?_
    refine lv_iload_n hx hb dX4_plays_32 rfl (lv_at hl 1 rfl) ?_
    refine lv_icmp_ne (tgt := 40) hx hb dX4_plays_33 (by decide) (fun c_33 => ?_) (fun c_33 => ?_)
    · skip
      have hn : ¬ (p < P ∧ q < R ∧ hCs U R P q = nI p) := fun z => c_33 ((plays_r hp hC12).mpr z.2)
      refine lv_iconst (v := (0 : Int32)) hx hb dX4_plays_40 (by decide) ?_
      exact hend _ _ _ _ _ _ _ (by decide) C12 hP hD hS (Nat.le_of_ble_eq_true rfl) (Nat.le_of_ble_eq_true rfl) (by first | exact (bI_f hn).symm | exact (bI_t hp3).symm) dX4_plays_41
    · skip
      have hp3 : p < P ∧ q < R ∧ hCs U R P q = nI p := ⟨c_24, (plays_r hp hC12).mp (by first | exact c_33 | exact Decidable.not_not.mp c_33)⟩
      refine lv_iconst (v := (1 : Int32)) hx hb dX4_plays_36 (by decide) ?_
      refine lv_goto (tgt := 41) hx hb dX4_plays_37 (by decide) ?_
      exact hend _ _ _ _ _ _ _ (by decide) C12 hP hD hS (Nat.le_of_ble_eq_true rfl) (Nat.le_of_ble_eq_true rfl) (by first | exact (bI_f hn).symm | exact (bI_t hp3).symm) dX4_plays_41

abbrev rm_X4_leastDegree : Room := { frames := 5, cells := 0, slots := 0, locals := 117 }
set_option maxHeartbeats 4000000 in
set_option maxRecDepth 100000 in
theorem c_X4_leastDegree (l : Launch) (K : KX) (r : Nat) (th : Nat) (ta : Nat → Nat) (U : HV) (p : Nat) (hp : p < 10) (r : Nat) (hr : r < 6) (c : Nat) (b : Nat → Nat) (C : HV) (R : Nat) (hR0 : U 10 0 = nI R) (hR0b : R ≤ 6) (P : Nat) (hP0 : U 11 0 = nI P) (hP0b : P ≤ 10) (hpP : p < P) (hrR : r < R) (sz : Nat) : Met l yX4_leastDegree wsX4_leastDegree rm_X4_leastDegree (va_Pc [.ref r, .int (nI p), .int (nI r), .ref c] (xPre K ([(r, .inr (4, [.ref th]))] ++ hw K th ta U ++ cw K c b C) sz)) (va_Qi (fun (r9 : Int32) (u9 : HV × HV) => r9 = fstF (ldF U R P p r) 1 9) (fun u9 t => xPost K (va_A ([(r, .inr (4, [.ref th]))] ++ hw K th ta U ++ cw K c b C) sz) ([(r, .inr (4, [.ref th]))] ++ hw K th ta u9.1 ++ cw K c b u9.2) t) (va_A ([(r, .inr (4, [.ref th]))] ++ hw K th ta U ++ cw K c b C) sz)) 0 0 (va_A ([(r, .inr (4, [.ref th]))] ++ hw K th ta U ++ cw K c b C) sz) := by
  refine xw_starti (cc := cX4_leastDegree) (maxL := 5) (by decide) rfl (Nat.le_of_ble_eq_true rfl) ?_
  intro p9 e9 s9 m9 below9 meth9 c9 H locs ls A av9 Q9 hx hb hlocks hml hname hts hown hK hP hD hS hA hsz hend hl
  have hown : s9.vm.findClass RX4 = some m9.cls := hown
  have hl : lv_has ls 5 [(0, .ref r), (1, .int (nI p)), (2, .int (nI r)), (3, .ref c)] := hl
  have hi4 : ∀ w ∈ u_ws RX4 TX4 1, w ∈ wsX4_leastDegree := by decide +kernel
  have lk12 := hts (.fieldLink RX4 12 "StandIns$Trial" "house" "LStandIns$House;") (by decide +kernel)
  refine lv_iconst (v := (1 : Int32)) hx hb dX4_leastDegree_0 (by decide) ?_
  refine lv_istore (lv' := [(4, .int (1 : Int32)), (0, .ref r), (1, .int (nI p)), (2, .int (nI r)), (3, .ref c)]) hx hb dX4_leastDegree_1 hl (by decide) rfl (fun ls hl => ?_)
  have lp3 : ∀ (n9 : Nat) (k : Nat) (y : Int32) (E : HV) (H : Heap) (locs : List Loc) (ls : Array Slot), 10 - k < n9 → (k ≤ 10) → (1 ≤ k) → (fstF (ldF U R P p r) 1 9 = fstF (ldF U R P p r) k (10 - k)) → va_P K.1 vwCl ([(r, .inr (4, [.ref th]))] ++ hw K th ta (hset U 3 (r * 10 + p) y) ++ cw K c b E) H → va_D A ([(r, .inr (4, [.ref th]))] ++ hw K th ta (hset U 3 (r * 10 + p) y) ++ cw K c b E) → va_S A s9.heap H locs → lv_has ls 5 [(0, .ref r), (1, .int (nI p)), (2, .int (nI r)), (3, .ref c), (4, .int (nI k))] → W p9 l e9 rm_X4_leastDegree s9 m9 av9 below9 meth9 c9 H locs 0 0 Q9 (F0 m9 3 ls []) := by
    intro n9
    induction n9 with
    | zero => intro k y E H locs ls hmu hk hk1 hF hP hD hS hl; exact absurd hmu (Nat.not_lt_zero _)
    | succ n9 ih3 =>
      intro k y E H locs ls hmu hk hk1 hF hP hD hS hl
      refine lv_iload hx hb dX4_leastDegree_3 (lv_at hl 4 rfl) ?_
      refine lv_bipush (v := (9 : Int32)) hx hb dX4_leastDegree_5 (by decide) ?_
      refine xn_icmp_gt (tgt := 41) hx hb k 9 rfl rfl (by omega) (by decide) dX4_leastDegree_7 (by decide) (fun c_7 => ?_) (fun c_7 => ?_)
      · skip
        refine lv_iconst (v := (-1 : Int32)) hx hb dX4_leastDegree_41 (by decide) ?_
        exact hend _ _ _ _ _ _ _ (hset U 3 (r * 10 + p) y, E) hP hD hS (Nat.le_of_ble_eq_true rfl) (Nat.le_of_ble_eq_true rfl) (by rw [hF]; exact (fstF_end (by omega)).symm) dX4_leastDegree_42
      · skip
        refine lv_aload_n hx hb dX4_leastDegree_10 rfl (lv_at hl 0 rfl) ?_
        refine va_get (ci := 4) (v := .ref th) (C := RX4) (T := TX4) (N := 1) hx hb hts hi4 hown hK hP 0 rfl rfl 0 (by decide) lk12 (fun _ h9 => h9) rfl dX4_leastDegree_11 ?_
        refine lv_iload_n hx hb dX4_leastDegree_14 rfl (lv_at hl 1 rfl) ?_
        refine lv_iload_n hx hb dX4_leastDegree_15 rfl (lv_at hl 2 rfl) ?_
        refine lv_iload hx hb dX4_leastDegree_16 (lv_at hl 4 rfl) ?_
        refine xw_Vi (As := [.int (nI p), .int (nI r), .int (nI k)]) (rest := []) (wc := hw K th ta (hset U 3 (r * 10 + p) y)) (wr := (List.filterMap (fun i => ([(r, .inr (4, [.ref th]))] ++ hw K th ta (hset U 3 (r * 10 + p) y) ++ cw K c b E : va_W)[i]?) ([0, 12, 13, 14, 15] : List Nat))) ⟨hx, hb, hml, hown, hts⟩ (c_X2_putDegree l K th ta (hset U 3 (r * 10 + p) y) p r (nI k) (by first | assumption | omega) (by first | assumption | omega) R hR0 (by omega) P hP0 (by omega) H.size) (cwV 3 hts gX4_leastDegree_X2_putDegree rfl rfl rfl (by decide +kernel) ⟨Nat.le_of_ble_eq_true rfl, Nat.le_of_ble_eq_true rfl⟩) hK hP hD hS hA [1, 2, 3, 4, 5, 6, 7, 8, 9, 10, 11] [0, 12, 13, 14, 15] [0, 5, 6, 7, 8, 9, 10, 11, 12, 13, 14, 15, 1, 2, 3, 4] rfl rfl rfl (fun _u => [(r, .inr (4, [.ref th]))] ++ hw K th ta (if p < P ∧ r < R then hset (hset U 3 (r * 10 + p) y) 3 (r * 10 + p) (nI k) else (hset U 3 (r * 10 + p) y)) ++ cw K c b E) (fun _ => rfl) 0 2 rfl rfl rfl rfl hl.1 rfl (Nat.le_of_ble_eq_true rfl) (Nat.le_of_ble_eq_true rfl) (Nat.le_of_ble_eq_true rfl) dX4_leastDegree_18 (fun r18 _ H locs hq18 hP hD hS => ?_)
        have hP : va_P K.1 vwCl ([(r, .inr (4, [.ref th]))] ++ hw K th ta (if p < P ∧ r < R then hset (hset U 3 (r * 10 + p) y) 3 (r * 10 + p) (nI k) else (hset U 3 (r * 10 + p) y)) ++ cw K c b E) H := hP
        have hD : va_D A ([(r, .inr (4, [.ref th]))] ++ hw K th ta (if p < P ∧ r < R then hset (hset U 3 (r * 10 + p) y) 3 (r * 10 + p) (nI k) else (hset U 3 (r * 10 + p) y)) ++ cw K c b E) := hD
        subst hq18
        have eT1 : (if p < P ∧ r < R then hset (hset U 3 (r * 10 + p) y) 3 (r * 10 + p) (nI k) else (hset U 3 (r * 10 + p) y)) = hset U 3 (r * 10 + p) (nI k) := by rw [if_pos ⟨hpP, hrR⟩, hset_hset]
        have hP : va_P K.1 vwCl ([(r, .inr (4, [.ref th]))] ++ hw K th ta (hset U 3 (r * 10 + p) (nI k)) ++ cw K c b E) H := by rw [← eT1]; exact hP
        have hD : va_D A ([(r, .inr (4, [.ref th]))] ++ hw K th ta (hset U 3 (r * 10 + p) (nI k)) ++ cw K c b E) := by rw [← eT1]; exact hD
        refine lv_pop hx hb dX4_leastDegree_21 rfl ?_
        refine lv_aload_n hx hb dX4_leastDegree_22 rfl (lv_at hl 0 rfl) ?_
        refine lv_iload_n hx hb dX4_leastDegree_23 rfl (lv_at hl 1 rfl) ?_
        refine lv_iload_n hx hb dX4_leastDegree_24 rfl (lv_at hl 2 rfl) ?_
        refine lv_aload_n hx hb dX4_leastDegree_25 rfl (lv_at hl 3 rfl) ?_
        refine xw_Vi (As := [.int (nI p), .int (nI r), .ref c]) (rest := []) (wc := [(r, .inr (4, [.ref th]))] ++ hw K th ta (hset U 3 (r * 10 + p) (nI k)) ++ cw K c b E) (wr := (List.filterMap (fun i => ([(r, .inr (4, [.ref th]))] ++ hw K th ta (hset U 3 (r * 10 + p) (nI k)) ++ cw K c b E : va_W)[i]?) ([] : List Nat))) ⟨hx, hb, hml, hown, hts⟩ (c_X4_plays l K r th ta (hset U 3 (r * 10 + p) (nI k)) p (by omega) r (by omega) c b E R hR0 (by omega) P hP0 (by omega) H.size) (cwV 3 hts gX4_leastDegree_X4_plays rfl rfl rfl (by decide +kernel) ⟨Nat.le_of_ble_eq_true rfl, Nat.le_of_ble_eq_true rfl⟩) hK hP hD hS hA [0, 1, 2, 3, 4, 5, 6, 7, 8, 9, 10, 11, 12, 13, 14, 15] [] [0, 1, 2, 3, 4, 5, 6, 7, 8, 9, 10, 11, 12, 13, 14, 15] rfl rfl rfl (fun D26 => [(r, .inr (4, [.ref th]))] ++ hw K th ta (hset U 3 (r * 10 + p) (nI k)) ++ cw K c b D26) (fun _ => rfl) 0 4 rfl rfl rfl rfl hl.1 rfl (Nat.le_of_ble_eq_true rfl) (Nat.le_of_ble_eq_true rfl) (Nat.le_of_ble_eq_true rfl) dX4_leastDegree_26 (fun r26 D26 H locs hq26 hP hD hS => ?_)
        have hP : va_P K.1 vwCl ([(r, .inr (4, [.ref th]))] ++ hw K th ta (hset U 3 (r * 10 + p) (nI k)) ++ cw K c b D26) H := hP
        have hD : va_D A ([(r, .inr (4, [.ref th]))] ++ hw K th ta (hset U 3 (r * 10 + p) (nI k)) ++ cw K c b D26) := hD
        subst hq26
        refine xb_if_eq (tgt := 35) hx hb dX4_leastDegree_29 (by decide) (fun c_29 => ?_) (fun c_29 => ?_)
        · skip
          refine lv_iinc (v := nI (k + 1)) (lv' := [(4, .int (nI (k + 1))), (0, .ref r), (1, .int (nI p)), (2, .int (nI r)), (3, .ref c)]) hx hb dX4_leastDegree_35 hl (k := 4) rfl (nI_1 _) (by decide) rfl (fun ls hl => ?_)
          refine lv_goto (tgt := 3) hx hb dX4_leastDegree_38 (by decide) ?_
          exact ih3 (k + 1) (nI k) D26 _ _ _ (by omega) (by first | omega | assumption | first | rfl | (simp [c_7, c_29]; done) | omega) (by first | omega | assumption | first | rfl | (simp [c_7, c_29]; done) | omega) (by rw [hF]; exact fstF_step (by omega) (by simp only [ldF, decide_eq_true_eq]; exact c_29)) hP hD hS (lv_cons (lv_at hl 1 rfl) (lv_cons (lv_at hl 2 rfl) (lv_cons (lv_at hl 3 rfl) (lv_cons (lv_at hl 4 rfl) (lv_cons (lv_at hl 0 rfl) (lv_nil hl))))))
        · skip
          refine lv_iload hx hb dX4_leastDegree_32 (lv_at hl 4 rfl) ?_
          exact hend _ _ _ _ _ _ _ ((hset U 3 (r * 10 + p) (nI k)), D26) hP hD hS (Nat.le_of_ble_eq_true rfl) (Nat.le_of_ble_eq_true rfl) (by rw [hF]; exact (fstF_hit (by omega) (by simp only [ldF, decide_eq_true_eq]; exact c_29)).symm) dX4_leastDegree_34
  have eS1 : (U) = hset U 3 (r * 10 + p) (U 3 (r * 10 + p)) := by first | exact hset_same _ _ _ | rfl
  have hP : va_P K.1 vwCl ([(r, .inr (4, [.ref th]))] ++ hw K th ta (hset U 3 (r * 10 + p) (U 3 (r * 10 + p))) ++ cw K c b C) H := by rw [← eS1]; exact hP
  have hD : va_D A ([(r, .inr (4, [.ref th]))] ++ hw K th ta (hset U 3 (r * 10 + p) (U 3 (r * 10 + p))) ++ cw K c b C) := by rw [← eS1]; exact hD
  exact lp3 _ 1 (U 3 (r * 10 + p)) C _ _ _ (Nat.lt_succ_self _) (by first | omega | assumption | first | rfl | (simp; done) | omega) (by first | omega | assumption | first | rfl | (simp; done) | omega) (by rfl) hP hD hS (lv_cons (lv_at hl 1 rfl) (lv_cons (lv_at hl 2 rfl) (lv_cons (lv_at hl 3 rfl) (lv_cons (lv_at hl 4 rfl) (lv_cons (lv_is (lv_at hl 0 rfl) (show (1 : Int32) = nI 1 by first | rfl | (simp; done) | omega)) (lv_nil hl))))))

abbrev rm_X4_withoutGroups : Room := { frames := 0, cells := 0, slots := 0, locals := 0 }
set_option maxHeartbeats 4000000 in
set_option maxRecDepth 100000 in
theorem c_X4_withoutGroups (l : Launch) (K : KX) (s : Nat) (hs : s < 2 ^ 63) (n : Nat) (hn : n < 2147483648) : Met l yX4_withoutGroups wsX4_withoutGroups rm_X4_withoutGroups (va_Pc [.long (lN s), .int (nI n)] (xRead K ([]))) (vp_Sl (fun r9 => r9 = lN (s / 10000 ^ n))) 0 0 (fun _ => False) := by
  refine xr_startl (cc := cX4_withoutGroups) (maxL := 6) (by decide) rfl (Nat.le_of_ble_eq_true rfl) ?_
  intro p9 e9 s9 m9 below9 meth9 c9 H ls av9 Q9 hx hb hlocks hml hts hown hK hP hend hl
  have hown : s9.vm.findClass RX4 = some m9.cls := hown
  have hl : lv_has ls 6 [(0, .long (lN s)), (2, .int (nI n))] := hl
  refine lv_lload_n hx hb dX4_withoutGroups_0 rfl (lv_at hl 0 rfl) ?_
  refine lv_lstore_n (lv' := [(3, .long (lN s)), (0, .long (lN s)), (2, .int (nI n))]) hx hb dX4_withoutGroups_1 rfl hl (by decide) rfl (fun ls hl => ?_)
  refine lv_iconst (v := (0 : Int32)) hx hb dX4_withoutGroups_2 (by decide) ?_
  refine lv_istore (lv' := [(5, .int (0 : Int32)), (3, .long (lN s)), (0, .long (lN s)), (2, .int (nI n))]) hx hb dX4_withoutGroups_3 hl (by decide) rfl (fun ls hl => ?_)
  have lp5 : ∀ (n9 : Nat) (k : Nat) (ls : Array Slot), n - k < n9 → (k ≤ n) → lv_has ls 6 [(0, .long (lN s)), (2, .int (nI n)), (3, .long (lN (s / 10000 ^ k))), (5, .int (nI k))] → W p9 l e9 rm_X4_withoutGroups s9 m9 av9 below9 meth9 c9 H [] 0 0 Q9 (F0 m9 5 ls []) := by
    intro n9
    induction n9 with
    | zero => intro k ls hmu hk hl; exact absurd hmu (Nat.not_lt_zero _)
    | succ n9 ih5 =>
      intro k ls hmu hk hl
      have hlb : s / 10000 ^ k < 2 ^ 63 := Nat.lt_of_le_of_lt (Nat.div_le_self _ _) hs
      refine lv_iload hx hb dX4_withoutGroups_5 (lv_at hl 3 rfl) ?_
      refine lv_iload_n hx hb dX4_withoutGroups_7 rfl (lv_at hl 1 rfl) ?_
      refine xn_icmp_ge (tgt := 23) hx hb k n rfl rfl (by omega) (by omega) dX4_withoutGroups_8 (by decide) (fun c_8 => ?_) (fun c_8 => ?_)
      · skip
        refine lv_lload_n hx hb dX4_withoutGroups_23 rfl (lv_at hl 2 rfl) ?_
        exact hend _ _ _ (by rw [show k = n by omega]) dX4_withoutGroups_24
      · skip
        refine lv_lload_n hx hb dX4_withoutGroups_11 rfl (lv_at hl 2 rfl) ?_
        refine lv_ldc2 (v := (10000 : Int64)) hx hb hown (hts (.constantLong RX4 52 (10000)) (by decide +kernel)) dX4_withoutGroups_12 ?_
        refine lv_ldiv hx hb dX4_withoutGroups_15 (by decide) ?_
        have e1 : (lN (s / 10000 ^ k)) / (10000 : Int64) = lN ((s / 10000 ^ k) / 10000) := lN_div (by exact hlb) (by decide) (by decide)
        rw [e1]
        refine lv_lstore_n (lv' := [(3, .long (lN ((s / 10000 ^ k) / 10000))), (0, .long (lN s)), (2, .int (nI n)), (5, .int (nI k))]) hx hb dX4_withoutGroups_16 rfl hl (by decide) rfl (fun ls hl => ?_)
        refine lv_iinc (v := nI (k + 1)) (lv' := [(5, .int (nI (k + 1))), (3, .long (lN ((s / 10000 ^ k) / 10000))), (0, .long (lN s)), (2, .int (nI n))]) hx hb dX4_withoutGroups_17 hl (k := 3) rfl (nI_1 _) (by decide) rfl (fun ls hl => ?_)
        refine lv_goto (tgt := 5) hx hb dX4_withoutGroups_20 (by decide) ?_
        exact ih5 (k + 1) _ (by omega) (by first | omega | assumption | first | rfl | (simp [c_8]; done) | omega) (lv_cons (lv_at hl 2 rfl) (lv_cons (lv_at hl 3 rfl) (lv_cons (lv_isL (lv_at hl 1 rfl) (show lN ((s / 10000 ^ k) / 10000) = lN (s / 10000 ^ (k + 1)) by rw [Nat.div_div_eq_div_mul, ← Nat.pow_succ])) (lv_cons (lv_at hl 0 rfl) (lv_nil hl)))))
  exact lp5 _ 0 _ (Nat.lt_succ_self _) (by first | omega | assumption | first | rfl | (simp; done) | omega) (lv_cons (lv_at hl 2 rfl) (lv_cons (lv_at hl 3 rfl) (lv_cons (lv_isL (lv_at hl 1 rfl) (show lN s = lN (s / 10000 ^ 0) by rw [Nat.pow_zero, Nat.div_one])) (lv_cons (lv_is (lv_at hl 0 rfl) (show (0 : Int32) = nI 0 by rfl)) (lv_nil hl)))))

abbrev rm_X4_succeeds : Room := { frames := 5, cells := 0, slots := 0, locals := 117 }
set_option maxHeartbeats 4000000 in
set_option maxRecDepth 100000 in
theorem c_X4_succeeds (l : Launch) (K : KX) (r : Nat) (th : Nat) (ta : Nat → Nat) (U : HV) (g : Nat) (hg : g < 10000) (c : Nat) (b : Nat → Nat) (C : HV) (R : Nat) (hR0 : U 10 0 = nI R) (hR0b : R ≤ 6) (P : Nat) (hP0 : U 11 0 = nI P) (hP0b : P ≤ 10) (sz : Nat) : Met l yX4_succeeds wsX4_succeeds rm_X4_succeeds (va_Pc [.ref r, .int (nI g), .ref c] (xPre K ([(r, .inr (4, [.ref th]))] ++ hw K th ta U ++ cw K c b C) sz)) (va_Qi (fun (r9 : Int32) (u9 : HV) => r9 = bI (sucB U R P g = true)) (fun u9 t => xPost K (va_A ([(r, .inr (4, [.ref th]))] ++ hw K th ta U ++ cw K c b C) sz) ([(r, .inr (4, [.ref th]))] ++ hw K th ta (sucS U R P g) ++ cw K c b u9) t) (va_A ([(r, .inr (4, [.ref th]))] ++ hw K th ta U ++ cw K c b C) sz)) 0 0 (va_A ([(r, .inr (4, [.ref th]))] ++ hw K th ta U ++ cw K c b C) sz) := by
  refine xw_startz (cc := cX4_succeeds) (maxL := 6) (ret := .boolean) (by decide) rfl (Nat.le_of_ble_eq_true rfl) ?_
  intro p9 e9 s9 m9 below9 meth9 c9 H locs ls A av9 Q9 hx hb hlocks hml hname hts hown hK hP hD hS hA hsz hend hl
  have hown : s9.vm.findClass RX4 = some m9.cls := hown
  have hl : lv_has ls 6 [(0, .ref r), (1, .int (nI g)), (2, .ref c)] := hl
  have hi4 : ∀ w ∈ u_ws RX4 TX4 1, w ∈ wsX4_succeeds := by decide +kernel
  have lk12 := hts (.fieldLink RX4 12 "StandIns$Trial" "house" "LStandIns$House;") (by decide +kernel)
  have hfl : frN U P < 1024 := Nat.lt_of_lt_of_le (frN_lt U P) (pw_le hP0b)
  refine lv_iload_n hx hb dX4_succeeds_0 rfl (lv_at hl 1 rfl) ?_
  refine lv_bipush (v := (100 : Int32)) hx hb dX4_succeeds_1 (by decide) ?_
  refine lv_idiv hx hb dX4_succeeds_3 (by decide) ?_
  have e1 : (nI g) / (100 : Int32) = nI (g / 100) := nn_div rfl rfl (by omega) (by omega) (by omega)
  rw [e1]
  refine lv_bipush (v := (10 : Int32)) hx hb dX4_succeeds_4 (by decide) ?_
  refine lv_irem hx hb dX4_succeeds_6 (by decide) ?_
  have e2 : (nI (g / 100)) - (nI (g / 100)) / (10 : Int32) * (10 : Int32) = nI ((g / 100) % 10) := nn_rem rfl rfl (by omega) (by omega) (by omega)
  rw [e2]
  refine lv_istore_n (lv' := [(3, .int (nI ((g / 100) % 10))), (0, .ref r), (1, .int (nI g)), (2, .ref c)]) hx hb dX4_succeeds_7 rfl hl (by decide) rfl (fun ls hl => ?_)
  refine lv_iload_n hx hb dX4_succeeds_8 rfl (lv_at hl 2 rfl) ?_
  refine lv_bipush (v := (10 : Int32)) hx hb dX4_succeeds_9 (by decide) ?_
  refine lv_idiv hx hb dX4_succeeds_11 (by decide) ?_
  have e3 : (nI g) / (10 : Int32) = nI (g / 10) := nn_div rfl rfl (by omega) (by omega) (by omega)
  rw [e3]
  refine lv_bipush (v := (10 : Int32)) hx hb dX4_succeeds_12 (by decide) ?_
  refine lv_irem hx hb dX4_succeeds_14 (by decide) ?_
  have e4 : (nI (g / 10)) - (nI (g / 10)) / (10 : Int32) * (10 : Int32) = nI ((g / 10) % 10) := nn_rem rfl rfl (by omega) (by omega) (by omega)
  rw [e4]
  refine lv_istore (lv' := [(4, .int (nI ((g / 10) % 10))), (3, .int (nI ((g / 100) % 10))), (0, .ref r), (1, .int (nI g)), (2, .ref c)]) hx hb dX4_succeeds_15 hl (by decide) rfl (fun ls hl => ?_)
  refine lv_iload_n hx hb dX4_succeeds_17 rfl (lv_at hl 3 rfl) ?_
  refine lv_bipush (v := (10 : Int32)) hx hb dX4_succeeds_18 (by decide) ?_
  refine lv_irem hx hb dX4_succeeds_20 (by decide) ?_
  have e5 : (nI g) - (nI g) / (10 : Int32) * (10 : Int32) = nI (g % 10) := nn_rem rfl rfl (by omega) (by omega) (by omega)
  rw [e5]
  refine lv_istore (lv' := [(5, .int (nI (g % 10))), (4, .int (nI ((g / 10) % 10))), (3, .int (nI ((g / 100) % 10))), (0, .ref r), (1, .int (nI g)), (2, .ref c)]) hx hb dX4_succeeds_21 hl (by decide) rfl (fun ls hl => ?_)
  refine lv_iload_n hx hb dX4_succeeds_23 rfl (lv_at hl 4 rfl) ?_
  refine lv_sipush (v := (1000 : Int32)) hx hb dX4_succeeds_24 (by decide) ?_
  refine lv_idiv hx hb dX4_succeeds_27 (by decide) ?_
  have e6 : (nI g) / (1000 : Int32) = nI (g / 1000) := nn_div rfl rfl (by omega) (by omega) (by omega)
  rw [e6]
  by_cases e28_1 : g / 1000 = 1
  · rw [show nI (g / 1000) = (1 : Int32) from rfl.trans (congrArg nI e28_1)]
    refine lv_tableIn (off := 52) (tgt := 80) hx hb dX4_succeeds_28 (by decide) (by decide) (by decide) (by decide) ?_
    refine lv_aload_n hx hb dX4_succeeds_80 rfl (lv_at hl 3 rfl) ?_
    refine va_get (ci := 4) (v := .ref th) (C := RX4) (T := TX4) (N := 1) hx hb hts hi4 hown hK hP 0 rfl rfl 0 (by decide) lk12 (fun _ h9 => h9) rfl dX4_succeeds_81 ?_
    refine lv_iload_n hx hb dX4_succeeds_84 rfl (lv_at hl 2 rfl) ?_
    refine lv_iload hx hb dX4_succeeds_85 (lv_at hl 1 rfl) ?_
    refine lv_iload hx hb dX4_succeeds_87 (lv_at hl 0 rfl) ?_
    refine xw_Vi (As := [.int (nI ((g / 100) % 10)), .int (nI ((g / 10) % 10)), .int (nI (g % 10))]) (rest := []) (wc := hw K th ta U) (wr := (List.filterMap (fun i => ([(r, .inr (4, [.ref th]))] ++ hw K th ta U ++ cw K c b C : va_W)[i]?) ([0, 12, 13, 14, 15] : List Nat))) ⟨hx, hb, hml, hown, hts⟩ (c_X2_putDegree l K th ta U ((g / 100) % 10) ((g / 10) % 10) (nI (g % 10)) (by first | assumption | omega) (by first | assumption | omega) R hR0 (by omega) P hP0 (by omega) H.size) (cwV 3 hts gX4_succeeds_X2_putDegree rfl rfl rfl (by decide +kernel) ⟨Nat.le_of_ble_eq_true rfl, Nat.le_of_ble_eq_true rfl⟩) hK hP hD hS hA [1, 2, 3, 4, 5, 6, 7, 8, 9, 10, 11] [0, 12, 13, 14, 15] [0, 5, 6, 7, 8, 9, 10, 11, 12, 13, 14, 15, 1, 2, 3, 4] rfl rfl rfl (fun _u => [(r, .inr (4, [.ref th]))] ++ hw K th ta (if ((g / 100) % 10) < P ∧ ((g / 10) % 10) < R then hset U 3 (((g / 10) % 10) * 10 + ((g / 100) % 10)) (nI (g % 10)) else U) ++ cw K c b C) (fun _ => rfl) 0 2 rfl rfl rfl rfl hl.1 rfl (Nat.le_of_ble_eq_true rfl) (Nat.le_of_ble_eq_true rfl) (Nat.le_of_ble_eq_true rfl) dX4_succeeds_89 (fun r89 _ H locs hq89 hP hD hS => ?_)
    have hP : va_P K.1 vwCl ([(r, .inr (4, [.ref th]))] ++ hw K th ta (if ((g / 100) % 10) < P ∧ ((g / 10) % 10) < R then hset U 3 (((g / 10) % 10) * 10 + ((g / 100) % 10)) (nI (g % 10)) else U) ++ cw K c b C) H := hP
    have hD : va_D A ([(r, .inr (4, [.ref th]))] ++ hw K th ta (if ((g / 100) % 10) < P ∧ ((g / 10) % 10) < R then hset U 3 (((g / 10) % 10) * 10 + ((g / 100) % 10)) (nI (g % 10)) else U) ++ cw K c b C) := hD
    subst hq89
    have eS1 : (if ((g / 100) % 10) < P ∧ ((g / 10) % 10) < R then hset U 3 (((g / 10) % 10) * 10 + ((g / 100) % 10)) (nI (g % 10)) else U) = sucS U R P g := by (simp [sucS, e28_1]; done)
    rw [eS1] at hP hD
    exact hend _ _ _ _ _ _ _ (bI_narrow) C hP hD hS (Nat.le_of_ble_eq_true rfl) (Nat.le_of_ble_eq_true rfl) (by (simp [sucB, bI, e28_1]; done)) dX4_succeeds_92
  by_cases e28_2 : g / 1000 = 2
  · rw [show nI (g / 1000) = (2 : Int32) from rfl.trans (congrArg nI e28_2)]
    refine lv_tableIn (off := 65) (tgt := 93) hx hb dX4_succeeds_28 (by decide) (by decide) (by decide) (by decide) ?_
    refine lv_iload hx hb dX4_succeeds_93 (lv_at hl 0 rfl) ?_
    refine xn_if_ne (tgt := 115) hx hb (g % 10) rfl (by omega) dX4_succeeds_95 (by decide) (fun c_95 => ?_) (fun c_95 => ?_)
    · skip
      refine lv_iconst (v := (0 : Int32)) hx hb dX4_succeeds_115 (by decide) ?_
      have eS1 : (U) = sucS U R P g := by (simp [sucS, e28_2, c_95]; done)
      rw [eS1] at hP hD
      exact hend _ _ _ _ _ _ _ (by decide) C hP hD hS (Nat.le_of_ble_eq_true rfl) (Nat.le_of_ble_eq_true rfl) (by (simp [sucB, bI, e28_2, c_95]; done)) dX4_succeeds_116
    · skip
      refine lv_aload_n hx hb dX4_succeeds_98 rfl (lv_at hl 3 rfl) ?_
      refine va_get (ci := 4) (v := .ref th) (C := RX4) (T := TX4) (N := 1) hx hb hts hi4 hown hK hP 0 rfl rfl 0 (by decide) lk12 (fun _ h9 => h9) rfl dX4_succeeds_99 ?_
      refine lv_iload_n hx hb dX4_succeeds_102 rfl (lv_at hl 2 rfl) ?_
      refine lv_iload hx hb dX4_succeeds_103 (lv_at hl 1 rfl) ?_
      refine xw_Vi (As := [.int (nI ((g / 100) % 10)), .int (nI ((g / 10) % 10))]) (rest := []) (wc := hw K th ta U) (wr := (List.filterMap (fun i => ([(r, .inr (4, [.ref th]))] ++ hw K th ta U ++ cw K c b C : va_W)[i]?) ([0, 12, 13, 14, 15] : List Nat))) ⟨hx, hb, hml, hown, hts⟩ (c_X2_putFirst l K th ta U ((g / 100) % 10) ((g / 10) % 10) (by first | assumption | omega) (by first | assumption | omega) R hR0 (by omega) P hP0 (by omega) H.size) (cwV 2 hts gX4_succeeds_X2_putFirst rfl rfl rfl (by decide +kernel) ⟨Nat.le_of_ble_eq_true rfl, Nat.le_of_ble_eq_true rfl⟩) hK hP hD hS hA [1, 2, 3, 4, 5, 6, 7, 8, 9, 10, 11] [0, 12, 13, 14, 15] [0, 5, 6, 7, 8, 9, 10, 11, 12, 13, 14, 15, 1, 2, 3, 4] rfl rfl rfl (fun _u => [(r, .inr (4, [.ref th]))] ++ hw K th ta (if ((g / 10) % 10) < P ∧ ((g / 100) % 10) < R then hset U 1 ((g / 100) % 10) (nI ((g / 10) % 10)) else U) ++ cw K c b C) (fun _ => rfl) 0 2 rfl rfl rfl rfl hl.1 rfl (Nat.le_of_ble_eq_true rfl) (Nat.le_of_ble_eq_true rfl) (Nat.le_of_ble_eq_true rfl) dX4_succeeds_105 (fun r105 _ H locs hq105 hP hD hS => ?_)
      have hP : va_P K.1 vwCl ([(r, .inr (4, [.ref th]))] ++ hw K th ta (if ((g / 10) % 10) < P ∧ ((g / 100) % 10) < R then hset U 1 ((g / 100) % 10) (nI ((g / 10) % 10)) else U) ++ cw K c b C) H := hP
      have hD : va_D A ([(r, .inr (4, [.ref th]))] ++ hw K th ta (if ((g / 10) % 10) < P ∧ ((g / 100) % 10) < R then hset U 1 ((g / 100) % 10) (nI ((g / 10) % 10)) else U) ++ cw K c b C) := hD
      subst hq105
      refine xb_if_eq (tgt := 115) hx hb dX4_succeeds_108 (by decide) (fun c_108 => ?_) (fun c_108 => ?_)
      · skip
        refine lv_iconst (v := (0 : Int32)) hx hb dX4_succeeds_115 (by decide) ?_
        have eS1 : (if ((g / 10) % 10) < P ∧ ((g / 100) % 10) < R then hset U 1 ((g / 100) % 10) (nI ((g / 10) % 10)) else U) = sucS U R P g := by (simp [sucS, e28_2, c_95, c_108]; done)
        rw [eS1] at hP hD
        exact hend _ _ _ _ _ _ _ (by decide) C hP hD hS (Nat.le_of_ble_eq_true rfl) (Nat.le_of_ble_eq_true rfl) (by (simp [sucB, bI, e28_2, c_95, c_108]; done)) dX4_succeeds_116
      · skip
        refine lv_iconst (v := (1 : Int32)) hx hb dX4_succeeds_111 (by decide) ?_
        refine lv_goto (tgt := 116) hx hb dX4_succeeds_112 (by decide) ?_
        have eS1 : (if ((g / 10) % 10) < P ∧ ((g / 100) % 10) < R then hset U 1 ((g / 100) % 10) (nI ((g / 10) % 10)) else U) = sucS U R P g := by (simp [sucS, e28_2, c_95, c_108]; done)
        rw [eS1] at hP hD
        exact hend _ _ _ _ _ _ _ (by decide) C hP hD hS (Nat.le_of_ble_eq_true rfl) (Nat.le_of_ble_eq_true rfl) (by (simp [sucB, bI, e28_2, c_95, c_108]; done)) dX4_succeeds_116
  by_cases e28_3 : g / 1000 = 3
  · rw [show nI (g / 1000) = (3 : Int32) from rfl.trans (congrArg nI e28_3)]
    refine lv_tableIn (off := 89) (tgt := 117) hx hb dX4_succeeds_28 (by decide) (by decide) (by decide) (by decide) ?_
    refine lv_iload hx hb dX4_succeeds_117 (lv_at hl 1 rfl) ?_
    refine xn_if_ne (tgt := 139) hx hb ((g / 10) % 10) rfl (by omega) dX4_succeeds_119 (by decide) (fun c_119 => ?_) (fun c_119 => ?_)
    · skip
      refine lv_iconst (v := (0 : Int32)) hx hb dX4_succeeds_139 (by decide) ?_
      have eS1 : (U) = sucS U R P g := by (simp [sucS, e28_3, c_119]; done)
      rw [eS1] at hP hD
      exact hend _ _ _ _ _ _ _ (by decide) C hP hD hS (Nat.le_of_ble_eq_true rfl) (Nat.le_of_ble_eq_true rfl) (by (simp [sucB, bI, e28_3, c_119]; done)) dX4_succeeds_140
    · skip
      refine lv_aload_n hx hb dX4_succeeds_122 rfl (lv_at hl 3 rfl) ?_
      refine va_get (ci := 4) (v := .ref th) (C := RX4) (T := TX4) (N := 1) hx hb hts hi4 hown hK hP 0 rfl rfl 0 (by decide) lk12 (fun _ h9 => h9) rfl dX4_succeeds_123 ?_
      refine lv_iload_n hx hb dX4_succeeds_126 rfl (lv_at hl 2 rfl) ?_
      refine lv_iload hx hb dX4_succeeds_127 (lv_at hl 0 rfl) ?_
      refine xw_Vi (As := [.int (nI ((g / 100) % 10)), .int (nI (g % 10))]) (rest := []) (wc := hw K th ta U) (wr := (List.filterMap (fun i => ([(r, .inr (4, [.ref th]))] ++ hw K th ta U ++ cw K c b C : va_W)[i]?) ([0, 12, 13, 14, 15] : List Nat))) ⟨hx, hb, hml, hown, hts⟩ (c_X2_sendAway l K th ta U ((g / 100) % 10) (g % 10) (by first | assumption | omega) (by first | assumption | omega) P hP0 (by omega) H.size) (cwV 2 hts gX4_succeeds_X2_sendAway rfl rfl rfl (by decide +kernel) ⟨Nat.le_of_ble_eq_true rfl, Nat.le_of_ble_eq_true rfl⟩) hK hP hD hS hA [1, 2, 3, 4, 5, 6, 7, 8, 9, 10, 11] [0, 12, 13, 14, 15] [0, 5, 6, 7, 8, 9, 10, 11, 12, 13, 14, 15, 1, 2, 3, 4] rfl rfl rfl (fun _u => [(r, .inr (4, [.ref th]))] ++ hw K th ta (if ((g / 100) % 10) < P ∧ 1 ≤ (g % 10) ∧ (g % 10) ≤ 99 then hAway U ((g / 100) % 10) (g % 10) else U) ++ cw K c b C) (fun _ => rfl) 0 2 rfl rfl rfl rfl hl.1 rfl (Nat.le_of_ble_eq_true rfl) (Nat.le_of_ble_eq_true rfl) (Nat.le_of_ble_eq_true rfl) dX4_succeeds_129 (fun r129 _ H locs hq129 hP hD hS => ?_)
      have hP : va_P K.1 vwCl ([(r, .inr (4, [.ref th]))] ++ hw K th ta (if ((g / 100) % 10) < P ∧ 1 ≤ (g % 10) ∧ (g % 10) ≤ 99 then hAway U ((g / 100) % 10) (g % 10) else U) ++ cw K c b C) H := hP
      have hD : va_D A ([(r, .inr (4, [.ref th]))] ++ hw K th ta (if ((g / 100) % 10) < P ∧ 1 ≤ (g % 10) ∧ (g % 10) ≤ 99 then hAway U ((g / 100) % 10) (g % 10) else U) ++ cw K c b C) := hD
      subst hq129
      refine xb_if_eq (tgt := 139) hx hb dX4_succeeds_132 (by decide) (fun c_132 => ?_) (fun c_132 => ?_)
      · skip
        refine lv_iconst (v := (0 : Int32)) hx hb dX4_succeeds_139 (by decide) ?_
        have eS1 : (if ((g / 100) % 10) < P ∧ 1 ≤ (g % 10) ∧ (g % 10) ≤ 99 then hAway U ((g / 100) % 10) (g % 10) else U) = sucS U R P g := by (simp [sucS, e28_3, c_119, c_132]; done)
        rw [eS1] at hP hD
        exact hend _ _ _ _ _ _ _ (by decide) C hP hD hS (Nat.le_of_ble_eq_true rfl) (Nat.le_of_ble_eq_true rfl) (by (simp [sucB, bI, e28_3, c_119, c_132]; done)) dX4_succeeds_140
      · skip
        refine lv_iconst (v := (1 : Int32)) hx hb dX4_succeeds_135 (by decide) ?_
        refine lv_goto (tgt := 140) hx hb dX4_succeeds_136 (by decide) ?_
        have eS1 : (if ((g / 100) % 10) < P ∧ 1 ≤ (g % 10) ∧ (g % 10) ≤ 99 then hAway U ((g / 100) % 10) (g % 10) else U) = sucS U R P g := by (simp [sucS, e28_3, c_119, c_132]; done)
        rw [eS1] at hP hD
        exact hend _ _ _ _ _ _ _ (by decide) C hP hD hS (Nat.le_of_ble_eq_true rfl) (Nat.le_of_ble_eq_true rfl) (by (simp [sucB, bI, e28_3, c_119, c_132]; done)) dX4_succeeds_140
  by_cases e28_4 : g / 1000 = 4
  · rw [show nI (g / 1000) = (4 : Int32) from rfl.trans (congrArg nI e28_4)]
    refine lv_tableIn (off := 113) (tgt := 141) hx hb dX4_succeeds_28 (by decide) (by decide) (by decide) (by decide) ?_
    refine lv_iload_n hx hb dX4_succeeds_141 rfl (lv_at hl 4 rfl) ?_
    refine lv_sipush (v := (4000 : Int32)) hx hb dX4_succeeds_142 (by decide) ?_
    refine xn_icmp_ne (tgt := 163) hx hb g 4000 rfl rfl (by omega) (by decide) dX4_succeeds_145 (by decide) (fun c_145 => ?_) (fun c_145 => ?_)
    · skip
      refine lv_iconst (v := (0 : Int32)) hx hb dX4_succeeds_163 (by decide) ?_
      have eS1 : (U) = sucS U R P g := by (simp [sucS, e28_4, c_145]; done)
      rw [eS1] at hP hD
      exact hend _ _ _ _ _ _ _ (by decide) C hP hD hS (Nat.le_of_ble_eq_true rfl) (Nat.le_of_ble_eq_true rfl) (by (simp [sucB, bI, e28_4, c_145]; done)) dX4_succeeds_164
    · skip
      refine lv_aload_n hx hb dX4_succeeds_148 rfl (lv_at hl 3 rfl) ?_
      refine va_get (ci := 4) (v := .ref th) (C := RX4) (T := TX4) (N := 1) hx hb hts hi4 hown hK hP 0 rfl rfl 0 (by decide) lk12 (fun _ h9 => h9) rfl dX4_succeeds_149 ?_
      refine lv_aload_n hx hb dX4_succeeds_152 rfl (lv_at hl 5 rfl) ?_
      refine xw_Vi (As := [.ref c]) (rest := []) (wc := hw K th ta U ++ cw K c b C) (wr := (List.filterMap (fun i => ([(r, .inr (4, [.ref th]))] ++ hw K th ta U ++ cw K c b C : va_W)[i]?) ([0] : List Nat))) ⟨hx, hb, hml, hown, hts⟩ (c_X2_postCast l K th ta U c b C R hR0 (by omega) P hP0 (by omega) H.size) (cwV 1 hts gX4_succeeds_X2_postCast rfl rfl rfl (by decide +kernel) ⟨Nat.le_of_ble_eq_true rfl, Nat.le_of_ble_eq_true rfl⟩) hK hP hD hS hA [1, 2, 3, 4, 5, 6, 7, 8, 9, 10, 11, 12, 13, 14, 15] [0] [0, 1, 2, 3, 4, 5, 6, 7, 8, 9, 10, 11, 12, 13, 14, 15] rfl rfl rfl (fun D153 => [(r, .inr (4, [.ref th]))] ++ hw K th ta (if R ≠ 0 ∧ hStr U R P ≠ -1 then hPost U R P else U) ++ cw K c b D153) (fun _ => rfl) 0 2 rfl rfl rfl rfl hl.1 rfl (Nat.le_of_ble_eq_true rfl) (Nat.le_of_ble_eq_true rfl) (Nat.le_of_ble_eq_true rfl) dX4_succeeds_153 (fun r153 D153 H locs hq153 hP hD hS => ?_)
      have hP : va_P K.1 vwCl ([(r, .inr (4, [.ref th]))] ++ hw K th ta (if R ≠ 0 ∧ hStr U R P ≠ -1 then hPost U R P else U) ++ cw K c b D153) H := hP
      have hD : va_D A ([(r, .inr (4, [.ref th]))] ++ hw K th ta (if R ≠ 0 ∧ hStr U R P ≠ -1 then hPost U R P else U) ++ cw K c b D153) := hD
      subst hq153
      refine xb_if_eq (tgt := 163) hx hb dX4_succeeds_156 (by decide) (fun c_156 => ?_) (fun c_156 => ?_)
      · skip
        refine lv_iconst (v := (0 : Int32)) hx hb dX4_succeeds_163 (by decide) ?_
        have eS1 : (if R ≠ 0 ∧ hStr U R P ≠ -1 then hPost U R P else U) = sucS U R P g := by (simp [sucS, e28_4, c_145, c_156]; done)
        rw [eS1] at hP hD
        exact hend _ _ _ _ _ _ _ (by decide) D153 hP hD hS (Nat.le_of_ble_eq_true rfl) (Nat.le_of_ble_eq_true rfl) (by (simp [sucB, bI, e28_4, c_145, c_156]; done)) dX4_succeeds_164
      · skip
        refine lv_iconst (v := (1 : Int32)) hx hb dX4_succeeds_159 (by decide) ?_
        refine lv_goto (tgt := 164) hx hb dX4_succeeds_160 (by decide) ?_
        have eS1 : (if R ≠ 0 ∧ hStr U R P ≠ -1 then hPost U R P else U) = sucS U R P g := by (simp [sucS, e28_4, c_145, c_156]; done)
        rw [eS1] at hP hD
        exact hend _ _ _ _ _ _ _ (by decide) D153 hP hD hS (Nat.le_of_ble_eq_true rfl) (Nat.le_of_ble_eq_true rfl) (by (simp [sucB, bI, e28_4, c_145, c_156]; done)) dX4_succeeds_164
  by_cases e28_5 : g / 1000 = 5
  · rw [show nI (g / 1000) = (5 : Int32) from rfl.trans (congrArg nI e28_5)]
    refine lv_tableIn (off := 137) (tgt := 165) hx hb dX4_succeeds_28 (by decide) (by decide) (by decide) (by decide) ?_
    refine lv_iload_n hx hb dX4_succeeds_165 rfl (lv_at hl 4 rfl) ?_
    refine lv_sipush (v := (5000 : Int32)) hx hb dX4_succeeds_166 (by decide) ?_
    refine xn_icmp_ne (tgt := 198) hx hb g 5000 rfl rfl (by omega) (by decide) dX4_succeeds_169 (by decide) (fun c_169 => ?_) (fun c_169 => ?_)
    · skip
      refine lv_iconst (v := (0 : Int32)) hx hb dX4_succeeds_198 (by decide) ?_
      have eS1 : (U) = sucS U R P g := by (simp [sucS, e28_5, c_169]; done)
      rw [eS1] at hP hD
      exact hend _ _ _ _ _ _ _ (by decide) C hP hD hS (Nat.le_of_ble_eq_true rfl) (Nat.le_of_ble_eq_true rfl) (by (simp [sucB, bI, e28_5, c_169]; done)) dX4_succeeds_199
    · skip
      refine lv_aload_n hx hb dX4_succeeds_172 rfl (lv_at hl 3 rfl) ?_
      refine va_get (ci := 4) (v := .ref th) (C := RX4) (T := TX4) (N := 1) hx hb hts hi4 hown hK hP 0 rfl rfl 0 (by decide) lk12 (fun _ h9 => h9) rfl dX4_succeeds_173 ?_
      have hPc := P_sub (ws' := hw K th ta U) hP [1, 2, 3, 4, 5, 6, 7, 8, 9, 10, 11] rfl
      refine xr_V (As := []) (rest := []) ⟨hx, hb, hml, hown, hts⟩ (c_X2_roleCount l K th ta U) (cwV 0 hts gX4_succeeds_X2_roleCount rfl rfl rfl (by decide +kernel) ⟨Nat.le_of_ble_eq_true rfl, Nat.le_of_ble_eq_true rfl⟩) hK hPc 0 2 rfl rfl rfl rfl hl.1 rfl (Nat.le_of_ble_eq_true rfl) (Nat.le_of_ble_eq_true rfl) (Nat.le_of_ble_eq_true rfl) dX4_succeeds_176 ?_
      refine xn_if_le (tgt := 198) hx hb R hR0 (by omega) dX4_succeeds_179 (by decide) (fun c_179 => ?_) (fun c_179 => ?_)
      · skip
        refine lv_iconst (v := (0 : Int32)) hx hb dX4_succeeds_198 (by decide) ?_
        have eS1 : (U) = sucS U R P g := by (simp [sucS, e28_5, c_169, c_179]; done)
        rw [eS1] at hP hD
        exact hend _ _ _ _ _ _ _ (by decide) C hP hD hS (Nat.le_of_ble_eq_true rfl) (Nat.le_of_ble_eq_true rfl) (by (simp [sucB, bI, e28_5, c_169, c_179]; done)) dX4_succeeds_199
      · skip
        refine lv_aload_n hx hb dX4_succeeds_182 rfl (lv_at hl 3 rfl) ?_
        refine va_get (ci := 4) (v := .ref th) (C := RX4) (T := TX4) (N := 1) hx hb hts hi4 hown hK hP 0 rfl rfl 0 (by decide) lk12 (fun _ h9 => h9) rfl dX4_succeeds_183 ?_
        refine lv_aload_n hx hb dX4_succeeds_186 rfl (lv_at hl 5 rfl) ?_
        refine xw_Vi (As := [.ref c]) (rest := []) (wc := hw K th ta U ++ cw K c b C) (wr := (List.filterMap (fun i => ([(r, .inr (4, [.ref th]))] ++ hw K th ta U ++ cw K c b C : va_W)[i]?) ([0] : List Nat))) ⟨hx, hb, hml, hown, hts⟩ (c_X2_playDay l K th ta U c b C R hR0 (by omega) P hP0 (by omega) H.size) (cwV 1 hts gX4_succeeds_X2_playDay rfl rfl rfl (by decide +kernel) ⟨Nat.le_of_ble_eq_true rfl, Nat.le_of_ble_eq_true rfl⟩) hK hP hD hS hA [1, 2, 3, 4, 5, 6, 7, 8, 9, 10, 11, 12, 13, 14, 15] [0] [0, 1, 2, 3, 4, 5, 6, 7, 8, 9, 10, 11, 12, 13, 14, 15] rfl rfl rfl (fun D187 => [(r, .inr (4, [.ref th]))] ++ hw K th ta (hPlay U R P) ++ cw K c b D187) (fun _ => rfl) 0 2 rfl rfl rfl rfl hl.1 rfl (Nat.le_of_ble_eq_true rfl) (Nat.le_of_ble_eq_true rfl) (Nat.le_of_ble_eq_true rfl) dX4_succeeds_187 (fun r187 D187 H locs hq187 hP hD hS => ?_)
        have hP : va_P K.1 vwCl ([(r, .inr (4, [.ref th]))] ++ hw K th ta (hPlay U R P) ++ cw K c b D187) H := hP
        have hD : va_D A ([(r, .inr (4, [.ref th]))] ++ hw K th ta (hPlay U R P) ++ cw K c b D187) := hD
        subst hq187
        refine lv_iconst (v := (-1 : Int32)) hx hb dX4_succeeds_190 (by decide) ?_
        refine lv_icmp_eq (tgt := 198) hx hb dX4_succeeds_191 (by decide) (fun c_191 => ?_) (fun c_191 => ?_)
        · skip
          refine lv_iconst (v := (0 : Int32)) hx hb dX4_succeeds_198 (by decide) ?_
          have eS1 : (hPlay U R P) = sucS U R P g := by (simp [sucS, e28_5, c_169, c_179, c_191]; done)
          rw [eS1] at hP hD
          exact hend _ _ _ _ _ _ _ (by decide) D187 hP hD hS (Nat.le_of_ble_eq_true rfl) (Nat.le_of_ble_eq_true rfl) (by (simp [sucB, bI, e28_5, c_169, c_179, c_191]; done)) dX4_succeeds_199
        · skip
          refine lv_iconst (v := (1 : Int32)) hx hb dX4_succeeds_194 (by decide) ?_
          refine lv_goto (tgt := 199) hx hb dX4_succeeds_195 (by decide) ?_
          have eS1 : (hPlay U R P) = sucS U R P g := by (simp [sucS, e28_5, c_169, c_179, c_191]; done)
          rw [eS1] at hP hD
          exact hend _ _ _ _ _ _ _ (by decide) D187 hP hD hS (Nat.le_of_ble_eq_true rfl) (Nat.le_of_ble_eq_true rfl) (by (simp [sucB, bI, e28_5, c_169, c_179, c_191]; done)) dX4_succeeds_199
  by_cases e28_6 : g / 1000 = 6
  · rw [show nI (g / 1000) = (6 : Int32) from rfl.trans (congrArg nI e28_6)]
    refine lv_tableIn (off := 172) (tgt := 200) hx hb dX4_succeeds_28 (by decide) (by decide) (by decide) (by decide) ?_
    refine lv_iload_n hx hb dX4_succeeds_200 rfl (lv_at hl 2 rfl) ?_
    refine xn_if_ne (tgt := 226) hx hb ((g / 100) % 10) rfl (by omega) dX4_succeeds_201 (by decide) (fun c_201 => ?_) (fun c_201 => ?_)
    · skip
      refine lv_iconst (v := (0 : Int32)) hx hb dX4_succeeds_226 (by decide) ?_
      have eS1 : (U) = sucS U R P g := by (simp [sucS, e28_6, c_201]; done)
      rw [eS1] at hP hD
      exact hend _ _ _ _ _ _ _ (by decide) C hP hD hS (Nat.le_of_ble_eq_true rfl) (Nat.le_of_ble_eq_true rfl) (by (simp [sucB, bI, e28_6, c_201]; done)) dX4_succeeds_227
    · skip
      refine lv_aload_n hx hb dX4_succeeds_204 rfl (lv_at hl 3 rfl) ?_
      refine va_get (ci := 4) (v := .ref th) (C := RX4) (T := TX4) (N := 1) hx hb hts hi4 hown hK hP 0 rfl rfl 0 (by decide) lk12 (fun _ h9 => h9) rfl dX4_succeeds_205 ?_
      refine lv_bipush (v := (10 : Int32)) hx hb dX4_succeeds_208 (by decide) ?_
      refine lv_iload hx hb dX4_succeeds_210 (lv_at hl 1 rfl) ?_
      refine lv_imul hx hb dX4_succeeds_212 ?_
      refine lv_iload hx hb dX4_succeeds_213 (lv_at hl 0 rfl) ?_
      refine lv_iadd hx hb dX4_succeeds_215 ?_
      rw [show ((10 : Int32) * (nI ((g / 10) % 10))) + (nI (g % 10)) = nI ((10 * ((g / 10) % 10)) + (g % 10)) from (nn_add (nn_mul rfl rfl) rfl)]
      refine xw_Vi (As := [.int (nI ((10 * ((g / 10) % 10)) + (g % 10)))]) (rest := []) (wc := hw K th ta U) (wr := (List.filterMap (fun i => ([(r, .inr (4, [.ref th]))] ++ hw K th ta U ++ cw K c b C : va_W)[i]?) ([0, 12, 13, 14, 15] : List Nat))) ⟨hx, hb, hml, hown, hts⟩ (c_X2_passDays l K th ta U ((10 * ((g / 10) % 10)) + (g % 10)) (by first | assumption | omega) H.size) (cwV 1 hts gX4_succeeds_X2_passDays rfl rfl rfl (by decide +kernel) ⟨Nat.le_of_ble_eq_true rfl, Nat.le_of_ble_eq_true rfl⟩) hK hP hD hS hA [1, 2, 3, 4, 5, 6, 7, 8, 9, 10, 11] [0, 12, 13, 14, 15] [0, 5, 6, 7, 8, 9, 10, 11, 12, 13, 14, 15, 1, 2, 3, 4] rfl rfl rfl (fun _u => [(r, .inr (4, [.ref th]))] ++ hw K th ta (if 1 ≤ ((10 * ((g / 10) % 10)) + (g % 10)) ∧ ((10 * ((g / 10) % 10)) + (g % 10)) ≤ 99 then hPass U ((10 * ((g / 10) % 10)) + (g % 10)) else U) ++ cw K c b C) (fun _ => rfl) 0 2 rfl rfl rfl rfl hl.1 rfl (Nat.le_of_ble_eq_true rfl) (Nat.le_of_ble_eq_true rfl) (Nat.le_of_ble_eq_true rfl) dX4_succeeds_216 (fun r216 _ H locs hq216 hP hD hS => ?_)
      have hP : va_P K.1 vwCl ([(r, .inr (4, [.ref th]))] ++ hw K th ta (if 1 ≤ ((10 * ((g / 10) % 10)) + (g % 10)) ∧ ((10 * ((g / 10) % 10)) + (g % 10)) ≤ 99 then hPass U ((10 * ((g / 10) % 10)) + (g % 10)) else U) ++ cw K c b C) H := hP
      have hD : va_D A ([(r, .inr (4, [.ref th]))] ++ hw K th ta (if 1 ≤ ((10 * ((g / 10) % 10)) + (g % 10)) ∧ ((10 * ((g / 10) % 10)) + (g % 10)) ≤ 99 then hPass U ((10 * ((g / 10) % 10)) + (g % 10)) else U) ++ cw K c b C) := hD
      subst hq216
      refine xb_if_eq (tgt := 226) hx hb dX4_succeeds_219 (by decide) (fun c_219 => ?_) (fun c_219 => ?_)
      · skip
        refine lv_iconst (v := (0 : Int32)) hx hb dX4_succeeds_226 (by decide) ?_
        have eS1 : (if 1 ≤ ((10 * ((g / 10) % 10)) + (g % 10)) ∧ ((10 * ((g / 10) % 10)) + (g % 10)) ≤ 99 then hPass U ((10 * ((g / 10) % 10)) + (g % 10)) else U) = sucS U R P g := by (simp [sucS, e28_6, c_201, c_219]; done)
        rw [eS1] at hP hD
        exact hend _ _ _ _ _ _ _ (by decide) C hP hD hS (Nat.le_of_ble_eq_true rfl) (Nat.le_of_ble_eq_true rfl) (by (simp [sucB, bI, e28_6, c_201, c_219]; done)) dX4_succeeds_227
      · skip
        refine lv_iconst (v := (1 : Int32)) hx hb dX4_succeeds_222 (by decide) ?_
        refine lv_goto (tgt := 227) hx hb dX4_succeeds_223 (by decide) ?_
        have eS1 : (if 1 ≤ ((10 * ((g / 10) % 10)) + (g % 10)) ∧ ((10 * ((g / 10) % 10)) + (g % 10)) ≤ 99 then hPass U ((10 * ((g / 10) % 10)) + (g % 10)) else U) = sucS U R P g := by (simp [sucS, e28_6, c_201, c_219]; done)
        rw [eS1] at hP hD
        exact hend _ _ _ _ _ _ _ (by decide) C hP hD hS (Nat.le_of_ble_eq_true rfl) (Nat.le_of_ble_eq_true rfl) (by (simp [sucB, bI, e28_6, c_201, c_219]; done)) dX4_succeeds_227
  by_cases e28_7 : g / 1000 = 7
  · rw [show nI (g / 1000) = (7 : Int32) from rfl.trans (congrArg nI e28_7)]
    refine lv_tableIn (off := 200) (tgt := 228) hx hb dX4_succeeds_28 (by decide) (by decide) (by decide) (by decide) ?_
    refine lv_iload hx hb dX4_succeeds_228 (lv_at hl 0 rfl) ?_
    refine xn_if_ne (tgt := 248) hx hb (g % 10) rfl (by omega) dX4_succeeds_230 (by decide) (fun c_230 => ?_) (fun c_230 => ?_)
    · skip
      refine lv_iconst (v := (0 : Int32)) hx hb dX4_succeeds_248 (by decide) ?_
      have eS1 : (U) = sucS U R P g := by (simp [sucS, e28_7, c_230]; done)
      rw [eS1] at hP hD
      exact hend _ _ _ _ _ _ _ (by decide) C hP hD hS (Nat.le_of_ble_eq_true rfl) (Nat.le_of_ble_eq_true rfl) (by (simp [sucB, bI, e28_7, c_230]; done)) dX4_succeeds_249
    · skip
      refine lv_aload_n hx hb dX4_succeeds_233 rfl (lv_at hl 3 rfl) ?_
      refine lv_iload hx hb dX4_succeeds_234 (lv_at hl 1 rfl) ?_
      refine lv_iload_n hx hb dX4_succeeds_236 rfl (lv_at hl 2 rfl) ?_
      refine lv_aload_n hx hb dX4_succeeds_237 rfl (lv_at hl 5 rfl) ?_
      refine xw_Vi (As := [.int (nI ((g / 10) % 10)), .int (nI ((g / 100) % 10)), .ref c]) (rest := []) (wc := [(r, .inr (4, [.ref th]))] ++ hw K th ta U ++ cw K c b C) (wr := (List.filterMap (fun i => ([(r, .inr (4, [.ref th]))] ++ hw K th ta U ++ cw K c b C : va_W)[i]?) ([] : List Nat))) ⟨hx, hb, hml, hown, hts⟩ (c_X4_plays l K r th ta U ((g / 10) % 10) (by omega) ((g / 100) % 10) (by omega) c b C R hR0 (by omega) P hP0 (by omega) H.size) (cwV 3 hts gX4_succeeds_X4_plays rfl rfl rfl (by decide +kernel) ⟨Nat.le_of_ble_eq_true rfl, Nat.le_of_ble_eq_true rfl⟩) hK hP hD hS hA [0, 1, 2, 3, 4, 5, 6, 7, 8, 9, 10, 11, 12, 13, 14, 15] [] [0, 1, 2, 3, 4, 5, 6, 7, 8, 9, 10, 11, 12, 13, 14, 15] rfl rfl rfl (fun D238 => [(r, .inr (4, [.ref th]))] ++ hw K th ta U ++ cw K c b D238) (fun _ => rfl) 0 4 rfl rfl rfl rfl hl.1 rfl (Nat.le_of_ble_eq_true rfl) (Nat.le_of_ble_eq_true rfl) (Nat.le_of_ble_eq_true rfl) dX4_succeeds_238 (fun r238 D238 H locs hq238 hP hD hS => ?_)
      have hP : va_P K.1 vwCl ([(r, .inr (4, [.ref th]))] ++ hw K th ta U ++ cw K c b D238) H := hP
      have hD : va_D A ([(r, .inr (4, [.ref th]))] ++ hw K th ta U ++ cw K c b D238) := hD
      subst hq238
      refine xb_if_eq (tgt := 248) hx hb dX4_succeeds_241 (by decide) (fun c_241 => ?_) (fun c_241 => ?_)
      · skip
        refine lv_iconst (v := (0 : Int32)) hx hb dX4_succeeds_248 (by decide) ?_
        have eS1 : (U) = sucS U R P g := by (simp [sucS, e28_7, c_230, c_241]; done)
        rw [eS1] at hP hD
        exact hend _ _ _ _ _ _ _ (by decide) D238 hP hD hS (Nat.le_of_ble_eq_true rfl) (Nat.le_of_ble_eq_true rfl) (by (simp [sucB, bI, e28_7, c_230, c_241]; done)) dX4_succeeds_249
      · skip
        refine lv_iconst (v := (1 : Int32)) hx hb dX4_succeeds_244 (by decide) ?_
        refine lv_goto (tgt := 249) hx hb dX4_succeeds_245 (by decide) ?_
        have eS1 : (U) = sucS U R P g := by (simp [sucS, e28_7, c_230, c_241]; done)
        rw [eS1] at hP hD
        exact hend _ _ _ _ _ _ _ (by decide) D238 hP hD hS (Nat.le_of_ble_eq_true rfl) (Nat.le_of_ble_eq_true rfl) (by (simp [sucB, bI, e28_7, c_230, c_241]; done)) dX4_succeeds_249
  by_cases e28_8 : g / 1000 = 8
  · rw [show nI (g / 1000) = (8 : Int32) from rfl.trans (congrArg nI e28_8)]
    refine lv_tableIn (off := 222) (tgt := 250) hx hb dX4_succeeds_28 (by decide) (by decide) (by decide) (by decide) ?_
    refine lv_aload_n hx hb dX4_succeeds_250 rfl (lv_at hl 5 rfl) ?_
    refine lv_aload_n hx hb dX4_succeeds_251 rfl (lv_at hl 3 rfl) ?_
    refine va_get (ci := 4) (v := .ref th) (C := RX4) (T := TX4) (N := 1) hx hb hts hi4 hown hK hP 0 rfl rfl 0 (by decide) lk12 (fun _ h9 => h9) rfl dX4_succeeds_252 ?_
    refine lv_aload_n hx hb dX4_succeeds_255 rfl (lv_at hl 3 rfl) ?_
    refine va_get (ci := 4) (v := .ref th) (C := RX4) (T := TX4) (N := 1) hx hb hts hi4 hown hK hP 0 rfl rfl 0 (by decide) lk12 (fun _ h9 => h9) rfl dX4_succeeds_256 ?_
    have hPc := P_sub (ws' := hw K th ta U) hP [1, 2, 3, 4, 5, 6, 7, 8, 9, 10, 11] rfl
    refine xr_V (As := []) (rest := [.ref th, .ref c]) ⟨hx, hb, hml, hown, hts⟩ (c_X2_freePlayers l K th ta U P hP0 (by omega)) (cwV 0 hts gX4_succeeds_X2_freePlayers rfl rfl rfl (by decide +kernel) ⟨Nat.le_of_ble_eq_true rfl, Nat.le_of_ble_eq_true rfl⟩) hK hPc 0 2 rfl rfl rfl rfl hl.1 rfl (Nat.le_of_ble_eq_true rfl) (Nat.le_of_ble_eq_true rfl) (Nat.le_of_ble_eq_true rfl) dX4_succeeds_259 ?_
    refine xw_Vi (As := [.ref th, .int (nI (frN U P))]) (rest := []) (wc := cw K c b C ++ hw K th ta U) (wr := (List.filterMap (fun i => ([(r, .inr (4, [.ref th]))] ++ hw K th ta U ++ cw K c b C : va_W)[i]?) ([0] : List Nat))) ⟨hx, hb, hml, hown, hts⟩ (c_X0_seek l K c b C th ta U (frN U P) (by omega) R hR0 (by omega) P hP0 (by omega) H.size) (cwV 2 hts gX4_succeeds_X0_seek rfl rfl rfl (by decide +kernel) ⟨Nat.le_of_ble_eq_true rfl, Nat.le_of_ble_eq_true rfl⟩) hK hP hD hS hA [12, 13, 14, 15, 1, 2, 3, 4, 5, 6, 7, 8, 9, 10, 11] [0] [0, 5, 6, 7, 8, 9, 10, 11, 12, 13, 14, 15, 1, 2, 3, 4] rfl rfl rfl (fun C262 => [(r, .inr (4, [.ref th]))] ++ hw K th ta U ++ cw K c b C262) (fun _ => rfl) 0 0 rfl rfl rfl rfl hl.1 rfl (Nat.le_of_ble_eq_true rfl) (Nat.le_of_ble_eq_true rfl) (Nat.le_of_ble_eq_true rfl) dX4_succeeds_262 (fun r262 C262 H locs hq262 hP hD hS => ?_)
    have hP : va_P K.1 vwCl ([(r, .inr (4, [.ref th]))] ++ hw K th ta U ++ cw K c b C262) H := hP
    have hD : va_D A ([(r, .inr (4, [.ref th]))] ++ hw K th ta U ++ cw K c b C262) := hD
    obtain ⟨rfl, hC262⟩ := hq262
    refine lv_iload_n hx hb dX4_succeeds_265 rfl (lv_at hl 4 rfl) ?_
    refine lv_sipush (v := (1000 : Int32)) hx hb dX4_succeeds_266 (by decide) ?_
    refine lv_irem hx hb dX4_succeeds_269 (by decide) ?_
    have e7 : (nI g) - (nI g) / (1000 : Int32) * (1000 : Int32) = nI (g % 1000) := nn_rem rfl rfl (by omega) (by omega) (by omega)
    rw [e7]
    refine lv_icmp_lt (tgt := 277) hx hb dX4_succeeds_270 (by decide) (fun c_270 => ?_) (fun c_270 => ?_)
    · skip
      have c_270n := Int32.not_le.mpr c_270
      refine lv_iconst (v := (0 : Int32)) hx hb dX4_succeeds_277 (by decide) ?_
      have eS1 : (U) = sucS U R P g := by (simp [sucS, e28_8, c_270, c_270n]; done)
      rw [eS1] at hP hD
      exact hend _ _ _ _ _ _ _ (by decide) C262 hP hD hS (Nat.le_of_ble_eq_true rfl) (Nat.le_of_ble_eq_true rfl) (by (simp [sucB, bI, e28_8, c_270, c_270n]; done)) dX4_succeeds_278
    · skip
      have c_270n := Int32.not_lt.mp c_270
      refine lv_iconst (v := (1 : Int32)) hx hb dX4_succeeds_273 (by decide) ?_
      refine lv_goto (tgt := 278) hx hb dX4_succeeds_274 (by decide) ?_
      have eS1 : (U) = sucS U R P g := by (simp [sucS, e28_8, c_270, c_270n]; done)
      rw [eS1] at hP hD
      exact hend _ _ _ _ _ _ _ (by decide) C262 hP hD hS (Nat.le_of_ble_eq_true rfl) (Nat.le_of_ble_eq_true rfl) (by (simp [sucB, bI, e28_8, c_270, c_270n]; done)) dX4_succeeds_278
  by_cases e28_9 : g / 1000 = 9
  · rw [show nI (g / 1000) = (9 : Int32) from rfl.trans (congrArg nI e28_9)]
    refine lv_tableIn (off := 251) (tgt := 279) hx hb dX4_succeeds_28 (by decide) (by decide) (by decide) (by decide) ?_
    refine lv_aload_n hx hb dX4_succeeds_279 rfl (lv_at hl 3 rfl) ?_
    refine va_get (ci := 4) (v := .ref th) (C := RX4) (T := TX4) (N := 1) hx hb hts hi4 hown hK hP 0 rfl rfl 0 (by decide) lk12 (fun _ h9 => h9) rfl dX4_succeeds_280 ?_
    refine lv_iload_n hx hb dX4_succeeds_283 rfl (lv_at hl 2 rfl) ?_
    have hPc := P_sub (ws' := hw K th ta U) hP [1, 2, 3, 4, 5, 6, 7, 8, 9, 10, 11] rfl
    refine xr_V (As := [.int (nI ((g / 100) % 10))]) (rest := []) ⟨hx, hb, hml, hown, hts⟩ (c_X2_hasPlayer_n l K th ta U ((g / 100) % 10) (by first | assumption | omega) P hP0 (by omega)) (cwV 1 hts gX4_succeeds_X2_hasPlayer rfl rfl rfl (by decide +kernel) ⟨Nat.le_of_ble_eq_true rfl, Nat.le_of_ble_eq_true rfl⟩) hK hPc 0 2 rfl rfl rfl rfl hl.1 rfl (Nat.le_of_ble_eq_true rfl) (Nat.le_of_ble_eq_true rfl) (Nat.le_of_ble_eq_true rfl) dX4_succeeds_284 ?_
    refine xb_if_eq (tgt := 309) hx hb dX4_succeeds_287 (by decide) (fun c_287 => ?_) (fun c_287 => ?_)
    · skip
      refine lv_iconst (v := (0 : Int32)) hx hb dX4_succeeds_309 (by decide) ?_
      have eS1 : (U) = sucS U R P g := by (simp [sucS, e28_9, c_287]; done)
      rw [eS1] at hP hD
      exact hend _ _ _ _ _ _ _ (by decide) C hP hD hS (Nat.le_of_ble_eq_true rfl) (Nat.le_of_ble_eq_true rfl) (by (simp [sucB, bI, e28_9, c_287]; done)) dX4_succeeds_310
    · skip
      refine lv_aload_n hx hb dX4_succeeds_290 rfl (lv_at hl 3 rfl) ?_
      refine va_get (ci := 4) (v := .ref th) (C := RX4) (T := TX4) (N := 1) hx hb hts hi4 hown hK hP 0 rfl rfl 0 (by decide) lk12 (fun _ h9 => h9) rfl dX4_succeeds_291 ?_
      refine lv_iload_n hx hb dX4_succeeds_294 rfl (lv_at hl 2 rfl) ?_
      have hPc := P_sub (ws' := hw K th ta U) hP [1, 2, 3, 4, 5, 6, 7, 8, 9, 10, 11] rfl
      refine xr_V (As := [.int (nI ((g / 100) % 10))]) (rest := []) ⟨hx, hb, hml, hown, hts⟩ (c_X2_payOf l K th ta U ((g / 100) % 10) (by omega)) (cwV 1 hts gX4_succeeds_X2_payOf rfl rfl rfl (by decide +kernel) ⟨Nat.le_of_ble_eq_true rfl, Nat.le_of_ble_eq_true rfl⟩) hK hPc 0 2 rfl rfl rfl rfl hl.1 rfl (Nat.le_of_ble_eq_true rfl) (Nat.le_of_ble_eq_true rfl) (Nat.le_of_ble_eq_true rfl) dX4_succeeds_295 ?_
      refine lv_iload_n hx hb dX4_succeeds_298 rfl (lv_at hl 4 rfl) ?_
      refine lv_bipush (v := (100 : Int32)) hx hb dX4_succeeds_299 (by decide) ?_
      refine lv_irem hx hb dX4_succeeds_301 (by decide) ?_
      have e8 : (nI g) - (nI g) / (100 : Int32) * (100 : Int32) = nI (g % 100) := nn_rem rfl rfl (by omega) (by omega) (by omega)
      rw [e8]
      refine lv_icmp_lt (tgt := 309) hx hb dX4_succeeds_302 (by decide) (fun c_302 => ?_) (fun c_302 => ?_)
      · skip
        have c_302n := Int32.not_le.mpr c_302
        refine lv_iconst (v := (0 : Int32)) hx hb dX4_succeeds_309 (by decide) ?_
        have eS1 : (U) = sucS U R P g := by (simp [sucS, e28_9, c_287, c_302, c_302n]; done)
        rw [eS1] at hP hD
        exact hend _ _ _ _ _ _ _ (by decide) C hP hD hS (Nat.le_of_ble_eq_true rfl) (Nat.le_of_ble_eq_true rfl) (by (simp [sucB, bI, e28_9, c_287, c_302, c_302n]; done)) dX4_succeeds_310
      · skip
        have c_302n := Int32.not_lt.mp c_302
        refine lv_iconst (v := (1 : Int32)) hx hb dX4_succeeds_305 (by decide) ?_
        refine lv_goto (tgt := 310) hx hb dX4_succeeds_306 (by decide) ?_
        have eS1 : (U) = sucS U R P g := by (simp [sucS, e28_9, c_287, c_302, c_302n]; done)
        rw [eS1] at hP hD
        exact hend _ _ _ _ _ _ _ (by decide) C hP hD hS (Nat.le_of_ble_eq_true rfl) (Nat.le_of_ble_eq_true rfl) (by (simp [sucB, bI, e28_9, c_287, c_302, c_302n]; done)) dX4_succeeds_310
  refine lv_tableOut (tgt := 311) hx hb dX4_succeeds_28 (by rw [show nI (g / 1000) = nI (g / 1000) from rfl, nI_toInt (by omega)]; omega) (by decide) ?_
  refine lv_iconst (v := (0 : Int32)) hx hb dX4_succeeds_311 (by decide) ?_
  have eS1 : (U) = sucS U R P g := by (simp [sucS, e28_1, e28_2, e28_3, e28_4, e28_5, e28_6, e28_7, e28_8, e28_9]; done)
  rw [eS1] at hP hD
  exact hend _ _ _ _ _ _ _ (by decide) C hP hD hS (Nat.le_of_ble_eq_true rfl) (Nat.le_of_ble_eq_true rfl) (by (simp [sucB, bI, e28_1, e28_2, e28_3, e28_4, e28_5, e28_6, e28_7, e28_8, e28_9]; done)) dX4_succeeds_312

abbrev rm_X4_firstFailing : Room := { frames := 6, cells := 0, slots := 0, locals := 142 }
set_option maxHeartbeats 4000000 in
set_option maxRecDepth 100000 in
theorem c_X4_firstFailing (l : Launch) (K : KX) (r : Nat) (th : Nat) (ta : Nat → Nat) (U : HV) (n : Nat) (hn : n < 4) (s : Nat) (hs : s < 2 ^ 63) (c : Nat) (b : Nat → Nat) (C : HV) (R : Nat) (hR0 : U 10 0 = nI R) (hR0b : R ≤ 6) (P : Nat) (hP0 : U 11 0 = nI P) (hP0b : P ≤ 10) (sz : Nat) : Met l yX4_firstFailing wsX4_firstFailing rm_X4_firstFailing (va_Pc [.ref r, .int (nI n), .long (lN s), .ref c] (xPre K ([(r, .inr (4, [.ref th]))] ++ hw K th ta U ++ cw K c b C) sz)) (va_Qi (fun (r9 : Int32) (u9 : HV × HV) => r9 = fstF (ffF U R P n s) 0 n) (fun u9 t => xPost K (va_A ([(r, .inr (4, [.ref th]))] ++ hw K th ta U ++ cw K c b C) sz) ([(r, .inr (4, [.ref th]))] ++ hw K th ta u9.1 ++ cw K c b u9.2) t) (va_A ([(r, .inr (4, [.ref th]))] ++ hw K th ta U ++ cw K c b C) sz)) 0 0 (va_A ([(r, .inr (4, [.ref th]))] ++ hw K th ta U ++ cw K c b C) sz) := by
  refine xw_starti (cc := cX4_firstFailing) (maxL := 6) (by decide) rfl (Nat.le_of_ble_eq_true rfl) ?_
  intro p9 e9 s9 m9 below9 meth9 c9 H locs ls A av9 Q9 hx hb hlocks hml hname hts hown hK hP hD hS hA hsz hend hl
  have hown : s9.vm.findClass RX4 = some m9.cls := hown
  have hl : lv_has ls 6 [(0, .ref r), (1, .int (nI n)), (2, .long (lN s)), (4, .ref c)] := hl
  refine lv_iconst (v := (0 : Int32)) hx hb dX4_firstFailing_0 (by decide) ?_
  refine lv_istore (lv' := [(5, .int (0 : Int32)), (0, .ref r), (1, .int (nI n)), (2, .long (lN s)), (4, .ref c)]) hx hb dX4_firstFailing_1 hl (by decide) rfl (fun ls hl => ?_)
  have lp3 : ∀ (n9 : Nat) (k : Nat) (E : HV) (H : Heap) (locs : List Loc) (ls : Array Slot), n - k < n9 → (k ≤ n) → (fstF (ffF U R P n s) 0 n = fstF (ffF U R P n s) k (n - k)) → va_P K.1 vwCl ([(r, .inr (4, [.ref th]))] ++ hw K th ta (ffS U R P n s k) ++ cw K c b E) H → va_D A ([(r, .inr (4, [.ref th]))] ++ hw K th ta (ffS U R P n s k) ++ cw K c b E) → va_S A s9.heap H locs → lv_has ls 6 [(0, .ref r), (1, .int (nI n)), (2, .long (lN s)), (4, .ref c), (5, .int (nI k))] → W p9 l e9 rm_X4_firstFailing s9 m9 av9 below9 meth9 c9 H locs 0 0 Q9 (F0 m9 3 ls []) := by
    intro n9
    induction n9 with
    | zero => intro k E H locs ls hmu hk hF hP hD hS hl; exact absurd hmu (Nat.not_lt_zero _)
    | succ n9 ih3 =>
      intro k E H locs ls hmu hk hF hP hD hS hl
      refine lv_iload hx hb dX4_firstFailing_3 (lv_at hl 4 rfl) ?_
      refine lv_iload_n hx hb dX4_firstFailing_5 rfl (lv_at hl 1 rfl) ?_
      refine xn_icmp_ge (tgt := 42) hx hb k n rfl rfl (by omega) (by omega) dX4_firstFailing_6 (by decide) (fun c_6 => ?_) (fun c_6 => ?_)
      · skip
        refine lv_iconst (v := (-1 : Int32)) hx hb dX4_firstFailing_42 (by decide) ?_
        exact hend _ _ _ _ _ _ _ (ffS U R P n s k, E) hP hD hS (Nat.le_of_ble_eq_true rfl) (Nat.le_of_ble_eq_true rfl) (by rw [hF]; exact (fstF_end (by omega)).symm) dX4_firstFailing_43
      · skip
        refine lv_aload_n hx hb dX4_firstFailing_9 rfl (lv_at hl 0 rfl) ?_
        refine lv_lload_n hx hb dX4_firstFailing_10 rfl (lv_at hl 2 rfl) ?_
        refine lv_iload_n hx hb dX4_firstFailing_11 rfl (lv_at hl 1 rfl) ?_
        refine lv_iconst (v := (1 : Int32)) hx hb dX4_firstFailing_12 (by decide) ?_
        refine lv_isub hx hb dX4_firstFailing_13 ?_
        refine lv_iload hx hb dX4_firstFailing_14 (lv_at hl 4 rfl) ?_
        refine lv_isub hx hb dX4_firstFailing_16 ?_
        rw [show ((nI n) - (1 : Int32)) - (nI k) = nI ((n - 1) - k) from (nn_sub (nn_sub rfl rfl (by omega)) rfl (by omega))]
        have hPc := P_sub (ws' := []) hP [] rfl
        refine xr_Sl (As := [.long (lN s), .int (nI ((n - 1) - k))]) (rest := [.ref r]) ⟨hx, hb, hml, hown, hts⟩ (c_X4_withoutGroups l K s (by omega) ((n - 1) - k) (by omega)) (va_cwS 2 hts gX4_firstFailing_X4_withoutGroups rfl rfl rfl (by decide +kernel) ⟨Nat.le_of_ble_eq_true rfl, Nat.le_of_ble_eq_true rfl⟩) hK hPc rfl hl.1 rfl (Nat.le_of_ble_eq_true rfl) (Nat.le_of_ble_eq_true rfl) (Nat.le_of_ble_eq_true rfl) dX4_firstFailing_17 ?_
        refine lv_ldc2 (v := (10000 : Int64)) hx hb hown (hts (.constantLong RX4 52 (10000)) (by decide +kernel)) dX4_firstFailing_20 ?_
        refine lv_lrem hx hb dX4_firstFailing_23 (by decide) ?_
        have e1 : (lN (s / 10000 ^ ((n - 1) - k))) - (lN (s / 10000 ^ ((n - 1) - k))) / (10000 : Int64) * (10000 : Int64) = lN ((s / 10000 ^ ((n - 1) - k)) % 10000) := lN_rem (by exact Nat.lt_of_le_of_lt (Nat.div_le_self _ _) hs) (by decide) (by decide)
        rw [e1]
        refine lv_l2i (v := nI ((s / 10000 ^ ((n - 1) - k)) % 10000)) hx hb dX4_firstFailing_24 (lN_i _) ?_
        refine lv_aload hx hb dX4_firstFailing_25 (lv_at hl 3 rfl) ?_
        refine xw_Vi (As := [.int (nI ((s / 10000 ^ ((n - 1) - k)) % 10000)), .ref c]) (rest := []) (wc := [(r, .inr (4, [.ref th]))] ++ hw K th ta (ffS U R P n s k) ++ cw K c b E) (wr := (List.filterMap (fun i => ([(r, .inr (4, [.ref th]))] ++ hw K th ta (ffS U R P n s k) ++ cw K c b E : va_W)[i]?) ([] : List Nat))) ⟨hx, hb, hml, hown, hts⟩ (c_X4_succeeds l K r th ta (ffS U R P n s k) ((s / 10000 ^ ((n - 1) - k)) % 10000) (by omega) c b E R (kp_ff (by decide) hR0 k) (by omega) P (kp_ff (by decide) hP0 k) (by omega) H.size) (cwV 2 hts gX4_firstFailing_X4_succeeds rfl rfl rfl (by decide +kernel) ⟨Nat.le_of_ble_eq_true rfl, Nat.le_of_ble_eq_true rfl⟩) hK hP hD hS hA [0, 1, 2, 3, 4, 5, 6, 7, 8, 9, 10, 11, 12, 13, 14, 15] [] [0, 1, 2, 3, 4, 5, 6, 7, 8, 9, 10, 11, 12, 13, 14, 15] rfl rfl rfl (fun D27 => [(r, .inr (4, [.ref th]))] ++ hw K th ta (sucS (ffS U R P n s k) R P ((s / 10000 ^ ((n - 1) - k)) % 10000)) ++ cw K c b D27) (fun _ => rfl) 0 4 rfl rfl rfl rfl hl.1 rfl (Nat.le_of_ble_eq_true rfl) (Nat.le_of_ble_eq_true rfl) (Nat.le_of_ble_eq_true rfl) dX4_firstFailing_27 (fun r27 D27 H locs hq27 hP hD hS => ?_)
        have hP : va_P K.1 vwCl ([(r, .inr (4, [.ref th]))] ++ hw K th ta (sucS (ffS U R P n s k) R P ((s / 10000 ^ ((n - 1) - k)) % 10000)) ++ cw K c b D27) H := hP
        have hD : va_D A ([(r, .inr (4, [.ref th]))] ++ hw K th ta (sucS (ffS U R P n s k) R P ((s / 10000 ^ ((n - 1) - k)) % 10000)) ++ cw K c b D27) := hD
        subst hq27
        refine xb_if_ne (tgt := 36) hx hb dX4_firstFailing_30 (by decide) (fun c_30 => ?_) (fun c_30 => ?_)
        · skip
          refine lv_iinc (v := nI (k + 1)) (lv' := [(5, .int (nI (k + 1))), (0, .ref r), (1, .int (nI n)), (2, .long (lN s)), (4, .ref c)]) hx hb dX4_firstFailing_36 hl (k := 4) rfl (nI_1 _) (by decide) rfl (fun ls hl => ?_)
          refine lv_goto (tgt := 3) hx hb dX4_firstFailing_39 (by decide) ?_
          have eS1 : (sucS (ffS U R P n s k) R P ((s / 10000 ^ ((n - 1) - k)) % 10000)) = ffS U R P n s (k + 1) := by rfl
          have hP : va_P K.1 vwCl ([(r, .inr (4, [.ref th]))] ++ hw K th ta (ffS U R P n s (k + 1)) ++ cw K c b D27) H := by rw [← eS1]; exact hP
          have hD : va_D A ([(r, .inr (4, [.ref th]))] ++ hw K th ta (ffS U R P n s (k + 1)) ++ cw K c b D27) := by rw [← eS1]; exact hD
          exact ih3 (k + 1) D27 _ _ _ (by omega) (by first | omega | assumption | first | rfl | (simp [c_6, c_30]; done) | omega) (by rw [hF]; exact fstF_step (by omega) (by simp only [ffF, c_30]; decide)) hP hD hS (lv_cons (lv_at hl 1 rfl) (lv_cons (lv_at hl 2 rfl) (lv_cons (lv_at hl 3 rfl) (lv_cons (lv_at hl 4 rfl) (lv_cons (lv_at hl 0 rfl) (lv_nil hl))))))
        · skip
          refine lv_iload hx hb dX4_firstFailing_33 (lv_at hl 4 rfl) ?_
          exact hend _ _ _ _ _ _ _ (sucS (ffS U R P n s k) R P ((s / 10000 ^ ((n - 1) - k)) % 10000), D27) hP hD hS (Nat.le_of_ble_eq_true rfl) (Nat.le_of_ble_eq_true rfl) (by rw [hF]; exact (fstF_hit (by omega) (by simp only [ffF]; simpa using c_30)).symm) dX4_firstFailing_35
  have eS1 : (U) = ffS U R P n s 0 := by rfl
  have hP : va_P K.1 vwCl ([(r, .inr (4, [.ref th]))] ++ hw K th ta (ffS U R P n s 0) ++ cw K c b C) H := by rw [← eS1]; exact hP
  have hD : va_D A ([(r, .inr (4, [.ref th]))] ++ hw K th ta (ffS U R P n s 0) ++ cw K c b C) := by rw [← eS1]; exact hD
  exact lp3 _ 0 C _ _ _ (Nat.lt_succ_self _) (by first | omega | assumption | first | rfl | (simp; done) | omega) (by rfl) hP hD hS (lv_cons (lv_at hl 1 rfl) (lv_cons (lv_at hl 2 rfl) (lv_cons (lv_at hl 3 rfl) (lv_cons (lv_at hl 4 rfl) (lv_cons (lv_is (lv_at hl 0 rfl) (show (0 : Int32) = nI 0 by first | rfl | (simp; done) | omega)) (lv_nil hl))))))

abbrev rm_X4_simulateDay : Room := { frames := 5, cells := 0, slots := 0, locals := 117 }
set_option maxHeartbeats 4000000 in
set_option maxRecDepth 100000 in
theorem c_X4_simulateDay (l : Launch) (K : KX) (r : Nat) (th : Nat) (ta : Nat → Nat) (U : HV) (x : Nat) (hx : x < 2147483648) (c : Nat) (b : Nat → Nat) (C : HV) (R : Nat) (hR0 : U 10 0 = nI R) (hR0b : R ≤ 6) (P : Nat) (hP0 : U 11 0 = nI P) (hP0b : P ≤ 10) (hP1 : 0 < P) (sz : Nat) : Met l yX4_simulateDay wsX4_simulateDay rm_X4_simulateDay (va_Pc [.ref r, .int (nI x), .ref c] (xPre K ([(r, .inr (4, [.ref th]))] ++ hw K th ta U ++ cw K c b C) sz)) (va_Qv (fun u9 : HV => True) (fun u9 t => xPost K (va_A ([(r, .inr (4, [.ref th]))] ++ hw K th ta U ++ cw K c b C) sz) ([(r, .inr (4, [.ref th]))] ++ hw K th ta (sdS U R P x) ++ cw K c b u9) t) (va_A ([(r, .inr (4, [.ref th]))] ++ hw K th ta U ++ cw K c b C) sz)) 0 0 (va_A ([(r, .inr (4, [.ref th]))] ++ hw K th ta U ++ cw K c b C) sz) := by
  refine xw_startv (cc := cX4_simulateDay) (maxL := 5) (by decide) rfl (Nat.le_of_ble_eq_true rfl) ?_
  intro p9 e9 s9 m9 below9 meth9 c9 H locs ls A av9 Q9 hx hb hlocks hml hname hts hown hK hP hD hS hA hsz hend hl
  have hown : s9.vm.findClass RX4 = some m9.cls := hown
  have hl : lv_has ls 5 [(0, .ref r), (1, .int (nI x)), (2, .ref c)] := hl
  have hi4 : ∀ w ∈ u_ws RX4 TX4 1, w ∈ wsX4_simulateDay := by decide +kernel
  have lk12 := hts (.fieldLink RX4 12 "StandIns$Trial" "house" "LStandIns$House;") (by decide +kernel)
  have hxm : x / 8 % P < P := Nat.mod_lt _ hP1
  refine lv_aload_n hx hb dX4_simulateDay_0 rfl (lv_at hl 0 rfl) ?_
  refine va_get (ci := 4) (v := .ref th) (C := RX4) (T := TX4) (N := 1) hx hb hts hi4 hown hK hP 0 rfl rfl 0 (by decide) lk12 (fun _ h9 => h9) rfl dX4_simulateDay_1 ?_
  have hPc := P_sub (ws' := hw K th ta U) hP [1, 2, 3, 4, 5, 6, 7, 8, 9, 10, 11] rfl
  refine xr_V (As := []) (rest := []) ⟨hx, hb, hml, hown, hts⟩ (c_X2_playerCount l K th ta U) (cwV 0 hts gX4_simulateDay_X2_playerCount rfl rfl rfl (by decide +kernel) ⟨Nat.le_of_ble_eq_true rfl, Nat.le_of_ble_eq_true rfl⟩) hK hPc 0 2 rfl rfl rfl rfl hl.1 rfl (Nat.le_of_ble_eq_true rfl) (Nat.le_of_ble_eq_true rfl) (Nat.le_of_ble_eq_true rfl) dX4_simulateDay_4 ?_
  refine lv_istore_n (lv' := [(3, .int (U 11 0)), (0, .ref r), (1, .int (nI x)), (2, .ref c)]) hx hb dX4_simulateDay_7 rfl hl (by decide) rfl (fun ls hl => ?_)
  refine lv_iload_n hx hb dX4_simulateDay_8 rfl (lv_at hl 0 rfl) ?_
  refine xn_if_le (tgt := 21) hx hb P hP0 (by omega) dX4_simulateDay_9 (by decide) (fun c_9 => ?_) (fun c_9 => ?_)
  · omega
  · skip
    refine lv_iload_n hx hb dX4_simulateDay_12 rfl (lv_at hl 2 rfl) ?_
    refine lv_bipush (v := (8 : Int32)) hx hb dX4_simulateDay_13 (by decide) ?_
    refine lv_idiv hx hb dX4_simulateDay_15 (by decide) ?_
    have e1 : (nI x) / (8 : Int32) = nI (x / 8) := nn_div rfl rfl (by omega) (by omega) (by omega)
    rw [e1]
    refine lv_iload_n hx hb dX4_simulateDay_16 rfl (lv_at hl 0 rfl) ?_
    refine lv_irem hx hb dX4_simulateDay_17 (by intro z; have z2 := (nn_eq hP0 (rfl : (0 : Int32) = nI 0) (by omega) (by decide)).mp z; exact absurd z2 (Nat.pos_iff_ne_zero.mp hP1)) ?_
    have e2 : (nI (x / 8)) - (nI (x / 8)) / (U 11 0) * (U 11 0) = nI ((x / 8) % P) := nn_rem rfl hP0 (by omega) (by omega) (by omega)
    rw [e2]
    refine lv_goto (tgt := 22) hx hb dX4_simulateDay_18 (by decide) ?_
    refine lv_istore (lv' := [(4, .int (nI ((x / 8) % P))), (3, .int (U 11 0)), (0, .ref r), (1, .int (nI x)), (2, .ref c)]) hx hb dX4_simulateDay_22 hl (by decide) rfl (fun ls hl => ?_)
    refine lv_iload_n hx hb dX4_simulateDay_24 rfl (lv_at hl 3 rfl) ?_
    refine lv_bipush (v := (8 : Int32)) hx hb dX4_simulateDay_25 (by decide) ?_
    refine lv_irem hx hb dX4_simulateDay_27 (by decide) ?_
    have e3 : (nI x) - (nI x) / (8 : Int32) * (8 : Int32) = nI (x % 8) := nn_rem rfl rfl (by omega) (by omega) (by omega)
    rw [e3]
    by_cases e28_0 : x % 8 = 0
    · rw [show nI (x % 8) = (0 : Int32) from rfl.trans (congrArg nI e28_0)]
      refine lv_tableIn (off := 28) (tgt := 56) hx hb dX4_simulateDay_28 (by decide) (by decide) (by decide) (by decide) ?_
      refine lv_aload_n hx hb dX4_simulateDay_56 rfl (lv_at hl 2 rfl) ?_
      refine va_get (ci := 4) (v := .ref th) (C := RX4) (T := TX4) (N := 1) hx hb hts hi4 hown hK hP 0 rfl rfl 0 (by decide) lk12 (fun _ h9 => h9) rfl dX4_simulateDay_57 ?_
      refine lv_iload hx hb dX4_simulateDay_60 (lv_at hl 0 rfl) ?_
      refine lv_iconst (v := (1 : Int32)) hx hb dX4_simulateDay_62 (by decide) ?_
      refine lv_iload_n hx hb dX4_simulateDay_63 rfl (lv_at hl 3 rfl) ?_
      refine lv_sipush (v := (128 : Int32)) hx hb dX4_simulateDay_64 (by decide) ?_
      refine lv_idiv hx hb dX4_simulateDay_67 (by decide) ?_
      have e4 : (nI x) / (128 : Int32) = nI (x / 128) := nn_div rfl rfl (by omega) (by omega) (by omega)
      rw [e4]
      refine lv_iconst (v := (5 : Int32)) hx hb dX4_simulateDay_68 (by decide) ?_
      refine lv_irem hx hb dX4_simulateDay_69 (by decide) ?_
      have e5 : (nI (x / 128)) - (nI (x / 128)) / (5 : Int32) * (5 : Int32) = nI ((x / 128) % 5) := nn_rem rfl rfl (by omega) (by omega) (by omega)
      rw [e5]
      refine lv_iadd hx hb dX4_simulateDay_70 ?_
      rw [show (1 : Int32) + (nI ((x / 128) % 5)) = nI (1 + ((x / 128) % 5)) from (nn_add rfl rfl)]
      refine xw_Vi (As := [.int (nI ((x / 8) % P)), .int (nI (1 + ((x / 128) % 5)))]) (rest := []) (wc := hw K th ta U) (wr := (List.filterMap (fun i => ([(r, .inr (4, [.ref th]))] ++ hw K th ta U ++ cw K c b C : va_W)[i]?) ([0, 12, 13, 14, 15] : List Nat))) ⟨hx, hb, hml, hown, hts⟩ (c_X2_sendAway l K th ta U ((x / 8) % P) (1 + ((x / 128) % 5)) (by first | assumption | omega) (by first | assumption | omega) P hP0 (by omega) H.size) (cwV 2 hts gX4_simulateDay_X2_sendAway rfl rfl rfl (by decide +kernel) ⟨Nat.le_of_ble_eq_true rfl, Nat.le_of_ble_eq_true rfl⟩) hK hP hD hS hA [1, 2, 3, 4, 5, 6, 7, 8, 9, 10, 11] [0, 12, 13, 14, 15] [0, 5, 6, 7, 8, 9, 10, 11, 12, 13, 14, 15, 1, 2, 3, 4] rfl rfl rfl (fun _u => [(r, .inr (4, [.ref th]))] ++ hw K th ta (if ((x / 8) % P) < P ∧ 1 ≤ (1 + ((x / 128) % 5)) ∧ (1 + ((x / 128) % 5)) ≤ 99 then hAway U ((x / 8) % P) (1 + ((x / 128) % 5)) else U) ++ cw K c b C) (fun _ => rfl) 0 2 rfl rfl rfl rfl hl.1 rfl (Nat.le_of_ble_eq_true rfl) (Nat.le_of_ble_eq_true rfl) (Nat.le_of_ble_eq_true rfl) dX4_simulateDay_71 (fun r71 _ H locs hq71 hP hD hS => ?_)
      have hP : va_P K.1 vwCl ([(r, .inr (4, [.ref th]))] ++ hw K th ta (if ((x / 8) % P) < P ∧ 1 ≤ (1 + ((x / 128) % 5)) ∧ (1 + ((x / 128) % 5)) ≤ 99 then hAway U ((x / 8) % P) (1 + ((x / 128) % 5)) else U) ++ cw K c b C) H := hP
      have hD : va_D A ([(r, .inr (4, [.ref th]))] ++ hw K th ta (if ((x / 8) % P) < P ∧ 1 ≤ (1 + ((x / 128) % 5)) ∧ (1 + ((x / 128) % 5)) ≤ 99 then hAway U ((x / 8) % P) (1 + ((x / 128) % 5)) else U) ++ cw K c b C) := hD
      subst hq71
      refine lv_pop hx hb dX4_simulateDay_74 rfl ?_
      refine lv_goto (tgt := 111) hx hb dX4_simulateDay_75 (by decide) ?_
      refine lv_aload_n hx hb dX4_simulateDay_111 rfl (lv_at hl 2 rfl) ?_
      refine va_get (ci := 4) (v := .ref th) (C := RX4) (T := TX4) (N := 1) hx hb hts hi4 hown hK hP 0 rfl rfl 0 (by decide) lk12 (fun _ h9 => h9) rfl dX4_simulateDay_112 ?_
      refine lv_aload_n hx hb dX4_simulateDay_115 rfl (lv_at hl 4 rfl) ?_
      refine xw_Vi (As := [.ref c]) (rest := []) (wc := hw K th ta (if ((x / 8) % P) < P ∧ 1 ≤ (1 + ((x / 128) % 5)) ∧ (1 + ((x / 128) % 5)) ≤ 99 then hAway U ((x / 8) % P) (1 + ((x / 128) % 5)) else U) ++ cw K c b C) (wr := (List.filterMap (fun i => ([(r, .inr (4, [.ref th]))] ++ hw K th ta (if ((x / 8) % P) < P ∧ 1 ≤ (1 + ((x / 128) % 5)) ∧ (1 + ((x / 128) % 5)) ≤ 99 then hAway U ((x / 8) % P) (1 + ((x / 128) % 5)) else U) ++ cw K c b C : va_W)[i]?) ([0] : List Nat))) ⟨hx, hb, hml, hown, hts⟩ (c_X2_playDay l K th ta (if ((x / 8) % P) < P ∧ 1 ≤ (1 + ((x / 128) % 5)) ∧ (1 + ((x / 128) % 5)) ≤ 99 then hAway U ((x / 8) % P) (1 + ((x / 128) % 5)) else U) c b C R (kp_ite (kp_Away (by decide) hR0) hR0) (by omega) P (kp_ite (kp_Away (by decide) hP0) hP0) (by omega) H.size) (cwV 1 hts gX4_simulateDay_X2_playDay rfl rfl rfl (by decide +kernel) ⟨Nat.le_of_ble_eq_true rfl, Nat.le_of_ble_eq_true rfl⟩) hK hP hD hS hA [1, 2, 3, 4, 5, 6, 7, 8, 9, 10, 11, 12, 13, 14, 15] [0] [0, 1, 2, 3, 4, 5, 6, 7, 8, 9, 10, 11, 12, 13, 14, 15] rfl rfl rfl (fun D116 => [(r, .inr (4, [.ref th]))] ++ hw K th ta (hPlay (if ((x / 8) % P) < P ∧ 1 ≤ (1 + ((x / 128) % 5)) ∧ (1 + ((x / 128) % 5)) ≤ 99 then hAway U ((x / 8) % P) (1 + ((x / 128) % 5)) else U) R P) ++ cw K c b D116) (fun _ => rfl) 0 2 rfl rfl rfl rfl hl.1 rfl (Nat.le_of_ble_eq_true rfl) (Nat.le_of_ble_eq_true rfl) (Nat.le_of_ble_eq_true rfl) dX4_simulateDay_116 (fun r116 D116 H locs hq116 hP hD hS => ?_)
      have hP : va_P K.1 vwCl ([(r, .inr (4, [.ref th]))] ++ hw K th ta (hPlay (if ((x / 8) % P) < P ∧ 1 ≤ (1 + ((x / 128) % 5)) ∧ (1 + ((x / 128) % 5)) ≤ 99 then hAway U ((x / 8) % P) (1 + ((x / 128) % 5)) else U) R P) ++ cw K c b D116) H := hP
      have hD : va_D A ([(r, .inr (4, [.ref th]))] ++ hw K th ta (hPlay (if ((x / 8) % P) < P ∧ 1 ≤ (1 + ((x / 128) % 5)) ∧ (1 + ((x / 128) % 5)) ≤ 99 then hAway U ((x / 8) % P) (1 + ((x / 128) % 5)) else U) R P) ++ cw K c b D116) := hD
      subst hq116
      refine lv_pop hx hb dX4_simulateDay_119 rfl ?_
      have eS1 : (hPlay (if ((x / 8) % P) < P ∧ 1 ≤ (1 + ((x / 128) % 5)) ∧ (1 + ((x / 128) % 5)) ≤ 99 then hAway U ((x / 8) % P) (1 + ((x / 128) % 5)) else U) R P) = sdS U R P x := by (simp [sdS, c_9, e28_0]; done)
      rw [eS1] at hP hD
      exact hend _ _ _ _ _ _ D116 hP hD hS (Nat.le_of_ble_eq_true rfl) (Nat.le_of_ble_eq_true rfl) trivial dX4_simulateDay_120
    by_cases e28_1 : x % 8 = 1
    · rw [show nI (x % 8) = (1 : Int32) from rfl.trans (congrArg nI e28_1)]
      refine lv_tableIn (off := 50) (tgt := 78) hx hb dX4_simulateDay_28 (by decide) (by decide) (by decide) (by decide) ?_
      refine lv_aload_n hx hb dX4_simulateDay_78 rfl (lv_at hl 2 rfl) ?_
      refine va_get (ci := 4) (v := .ref th) (C := RX4) (T := TX4) (N := 1) hx hb hts hi4 hown hK hP 0 rfl rfl 0 (by decide) lk12 (fun _ h9 => h9) rfl dX4_simulateDay_79 ?_
      refine lv_aload_n hx hb dX4_simulateDay_82 rfl (lv_at hl 4 rfl) ?_
      refine xw_Vi (As := [.ref c]) (rest := []) (wc := hw K th ta U ++ cw K c b C) (wr := (List.filterMap (fun i => ([(r, .inr (4, [.ref th]))] ++ hw K th ta U ++ cw K c b C : va_W)[i]?) ([0] : List Nat))) ⟨hx, hb, hml, hown, hts⟩ (c_X2_postCast l K th ta U c b C R hR0 (by omega) P hP0 (by omega) H.size) (cwV 1 hts gX4_simulateDay_X2_postCast rfl rfl rfl (by decide +kernel) ⟨Nat.le_of_ble_eq_true rfl, Nat.le_of_ble_eq_true rfl⟩) hK hP hD hS hA [1, 2, 3, 4, 5, 6, 7, 8, 9, 10, 11, 12, 13, 14, 15] [0] [0, 1, 2, 3, 4, 5, 6, 7, 8, 9, 10, 11, 12, 13, 14, 15] rfl rfl rfl (fun D83 => [(r, .inr (4, [.ref th]))] ++ hw K th ta (if R ≠ 0 ∧ hStr U R P ≠ -1 then hPost U R P else U) ++ cw K c b D83) (fun _ => rfl) 0 2 rfl rfl rfl rfl hl.1 rfl (Nat.le_of_ble_eq_true rfl) (Nat.le_of_ble_eq_true rfl) (Nat.le_of_ble_eq_true rfl) dX4_simulateDay_83 (fun r83 D83 H locs hq83 hP hD hS => ?_)
      have hP : va_P K.1 vwCl ([(r, .inr (4, [.ref th]))] ++ hw K th ta (if R ≠ 0 ∧ hStr U R P ≠ -1 then hPost U R P else U) ++ cw K c b D83) H := hP
      have hD : va_D A ([(r, .inr (4, [.ref th]))] ++ hw K th ta (if R ≠ 0 ∧ hStr U R P ≠ -1 then hPost U R P else U) ++ cw K c b D83) := hD
      subst hq83
      refine lv_pop hx hb dX4_simulateDay_86 rfl ?_
      refine lv_aload_n hx hb dX4_simulateDay_87 rfl (lv_at hl 2 rfl) ?_
      refine va_get (ci := 4) (v := .ref th) (C := RX4) (T := TX4) (N := 1) hx hb hts hi4 hown hK hP 0 rfl rfl 0 (by decide) lk12 (fun _ h9 => h9) rfl dX4_simulateDay_88 ?_
      refine lv_iload hx hb dX4_simulateDay_91 (lv_at hl 0 rfl) ?_
      refine lv_iconst (v := (1 : Int32)) hx hb dX4_simulateDay_93 (by decide) ?_
      refine xw_Vi (As := [.int (nI ((x / 8) % P)), .int (1 : Int32)]) (rest := []) (wc := hw K th ta (if R ≠ 0 ∧ hStr U R P ≠ -1 then hPost U R P else U)) (wr := (List.filterMap (fun i => ([(r, .inr (4, [.ref th]))] ++ hw K th ta (if R ≠ 0 ∧ hStr U R P ≠ -1 then hPost U R P else U) ++ cw K c b D83 : va_W)[i]?) ([0, 12, 13, 14, 15] : List Nat))) ⟨hx, hb, hml, hown, hts⟩ (c_X2_sendAway l K th ta (if R ≠ 0 ∧ hStr U R P ≠ -1 then hPost U R P else U) ((x / 8) % P) 1 (by first | assumption | omega) (by first | assumption | omega) P (kp_ite (kp_Post (by decide) hP0) hP0) (by omega) H.size) (cwV 2 hts gX4_simulateDay_X2_sendAway rfl rfl rfl (by decide +kernel) ⟨Nat.le_of_ble_eq_true rfl, Nat.le_of_ble_eq_true rfl⟩) hK hP hD hS hA [1, 2, 3, 4, 5, 6, 7, 8, 9, 10, 11] [0, 12, 13, 14, 15] [0, 5, 6, 7, 8, 9, 10, 11, 12, 13, 14, 15, 1, 2, 3, 4] rfl rfl rfl (fun _u => [(r, .inr (4, [.ref th]))] ++ hw K th ta (if ((x / 8) % P) < P ∧ 1 ≤ 1 ∧ 1 ≤ 99 then hAway (if R ≠ 0 ∧ hStr U R P ≠ -1 then hPost U R P else U) ((x / 8) % P) 1 else (if R ≠ 0 ∧ hStr U R P ≠ -1 then hPost U R P else U)) ++ cw K c b D83) (fun _ => rfl) 0 2 rfl rfl rfl rfl hl.1 rfl (Nat.le_of_ble_eq_true rfl) (Nat.le_of_ble_eq_true rfl) (Nat.le_of_ble_eq_true rfl) dX4_simulateDay_94 (fun r94 _ H locs hq94 hP hD hS => ?_)
      have hP : va_P K.1 vwCl ([(r, .inr (4, [.ref th]))] ++ hw K th ta (if ((x / 8) % P) < P ∧ 1 ≤ 1 ∧ 1 ≤ 99 then hAway (if R ≠ 0 ∧ hStr U R P ≠ -1 then hPost U R P else U) ((x / 8) % P) 1 else (if R ≠ 0 ∧ hStr U R P ≠ -1 then hPost U R P else U)) ++ cw K c b D83) H := hP
      have hD : va_D A ([(r, .inr (4, [.ref th]))] ++ hw K th ta (if ((x / 8) % P) < P ∧ 1 ≤ 1 ∧ 1 ≤ 99 then hAway (if R ≠ 0 ∧ hStr U R P ≠ -1 then hPost U R P else U) ((x / 8) % P) 1 else (if R ≠ 0 ∧ hStr U R P ≠ -1 then hPost U R P else U)) ++ cw K c b D83) := hD
      subst hq94
      refine lv_pop hx hb dX4_simulateDay_97 rfl ?_
      refine lv_goto (tgt := 111) hx hb dX4_simulateDay_98 (by decide) ?_
      refine lv_aload_n hx hb dX4_simulateDay_111 rfl (lv_at hl 2 rfl) ?_
      refine va_get (ci := 4) (v := .ref th) (C := RX4) (T := TX4) (N := 1) hx hb hts hi4 hown hK hP 0 rfl rfl 0 (by decide) lk12 (fun _ h9 => h9) rfl dX4_simulateDay_112 ?_
      refine lv_aload_n hx hb dX4_simulateDay_115 rfl (lv_at hl 4 rfl) ?_
      refine xw_Vi (As := [.ref c]) (rest := []) (wc := hw K th ta (if ((x / 8) % P) < P ∧ 1 ≤ 1 ∧ 1 ≤ 99 then hAway (if R ≠ 0 ∧ hStr U R P ≠ -1 then hPost U R P else U) ((x / 8) % P) 1 else (if R ≠ 0 ∧ hStr U R P ≠ -1 then hPost U R P else U)) ++ cw K c b D83) (wr := (List.filterMap (fun i => ([(r, .inr (4, [.ref th]))] ++ hw K th ta (if ((x / 8) % P) < P ∧ 1 ≤ 1 ∧ 1 ≤ 99 then hAway (if R ≠ 0 ∧ hStr U R P ≠ -1 then hPost U R P else U) ((x / 8) % P) 1 else (if R ≠ 0 ∧ hStr U R P ≠ -1 then hPost U R P else U)) ++ cw K c b D83 : va_W)[i]?) ([0] : List Nat))) ⟨hx, hb, hml, hown, hts⟩ (c_X2_playDay l K th ta (if ((x / 8) % P) < P ∧ 1 ≤ 1 ∧ 1 ≤ 99 then hAway (if R ≠ 0 ∧ hStr U R P ≠ -1 then hPost U R P else U) ((x / 8) % P) 1 else (if R ≠ 0 ∧ hStr U R P ≠ -1 then hPost U R P else U)) c b D83 R (kp_ite (kp_Away (by decide) (kp_ite (kp_Post (by decide) hR0) hR0)) (kp_ite (kp_Post (by decide) hR0) hR0)) (by omega) P (kp_ite (kp_Away (by decide) (kp_ite (kp_Post (by decide) hP0) hP0)) (kp_ite (kp_Post (by decide) hP0) hP0)) (by omega) H.size) (cwV 1 hts gX4_simulateDay_X2_playDay rfl rfl rfl (by decide +kernel) ⟨Nat.le_of_ble_eq_true rfl, Nat.le_of_ble_eq_true rfl⟩) hK hP hD hS hA [1, 2, 3, 4, 5, 6, 7, 8, 9, 10, 11, 12, 13, 14, 15] [0] [0, 1, 2, 3, 4, 5, 6, 7, 8, 9, 10, 11, 12, 13, 14, 15] rfl rfl rfl (fun D116 => [(r, .inr (4, [.ref th]))] ++ hw K th ta (hPlay (if ((x / 8) % P) < P ∧ 1 ≤ 1 ∧ 1 ≤ 99 then hAway (if R ≠ 0 ∧ hStr U R P ≠ -1 then hPost U R P else U) ((x / 8) % P) 1 else (if R ≠ 0 ∧ hStr U R P ≠ -1 then hPost U R P else U)) R P) ++ cw K c b D116) (fun _ => rfl) 0 2 rfl rfl rfl rfl hl.1 rfl (Nat.le_of_ble_eq_true rfl) (Nat.le_of_ble_eq_true rfl) (Nat.le_of_ble_eq_true rfl) dX4_simulateDay_116 (fun r116 D116 H locs hq116 hP hD hS => ?_)
      have hP : va_P K.1 vwCl ([(r, .inr (4, [.ref th]))] ++ hw K th ta (hPlay (if ((x / 8) % P) < P ∧ 1 ≤ 1 ∧ 1 ≤ 99 then hAway (if R ≠ 0 ∧ hStr U R P ≠ -1 then hPost U R P else U) ((x / 8) % P) 1 else (if R ≠ 0 ∧ hStr U R P ≠ -1 then hPost U R P else U)) R P) ++ cw K c b D116) H := hP
      have hD : va_D A ([(r, .inr (4, [.ref th]))] ++ hw K th ta (hPlay (if ((x / 8) % P) < P ∧ 1 ≤ 1 ∧ 1 ≤ 99 then hAway (if R ≠ 0 ∧ hStr U R P ≠ -1 then hPost U R P else U) ((x / 8) % P) 1 else (if R ≠ 0 ∧ hStr U R P ≠ -1 then hPost U R P else U)) R P) ++ cw K c b D116) := hD
      subst hq116
      refine lv_pop hx hb dX4_simulateDay_119 rfl ?_
      have eS1 : (hPlay (if ((x / 8) % P) < P ∧ 1 ≤ 1 ∧ 1 ≤ 99 then hAway (if R ≠ 0 ∧ hStr U R P ≠ -1 then hPost U R P else U) ((x / 8) % P) 1 else (if R ≠ 0 ∧ hStr U R P ≠ -1 then hPost U R P else U)) R P) = sdS U R P x := by (simp [sdS, c_9, e28_1]; done)
      rw [eS1] at hP hD
      exact hend _ _ _ _ _ _ D116 hP hD hS (Nat.le_of_ble_eq_true rfl) (Nat.le_of_ble_eq_true rfl) trivial dX4_simulateDay_120
    by_cases e28_2 : x % 8 = 2
    · rw [show nI (x % 8) = (2 : Int32) from rfl.trans (congrArg nI e28_2)]
      refine lv_tableIn (off := 73) (tgt := 101) hx hb dX4_simulateDay_28 (by decide) (by decide) (by decide) (by decide) ?_
      refine lv_aload_n hx hb dX4_simulateDay_101 rfl (lv_at hl 2 rfl) ?_
      refine va_get (ci := 4) (v := .ref th) (C := RX4) (T := TX4) (N := 1) hx hb hts hi4 hown hK hP 0 rfl rfl 0 (by decide) lk12 (fun _ h9 => h9) rfl dX4_simulateDay_102 ?_
      refine lv_iconst (v := (1 : Int32)) hx hb dX4_simulateDay_105 (by decide) ?_
      refine xw_Vi (As := [.int (1 : Int32)]) (rest := []) (wc := hw K th ta U) (wr := (List.filterMap (fun i => ([(r, .inr (4, [.ref th]))] ++ hw K th ta U ++ cw K c b C : va_W)[i]?) ([0, 12, 13, 14, 15] : List Nat))) ⟨hx, hb, hml, hown, hts⟩ (c_X2_passDays l K th ta U 1 (by first | assumption | omega) H.size) (cwV 1 hts gX4_simulateDay_X2_passDays rfl rfl rfl (by decide +kernel) ⟨Nat.le_of_ble_eq_true rfl, Nat.le_of_ble_eq_true rfl⟩) hK hP hD hS hA [1, 2, 3, 4, 5, 6, 7, 8, 9, 10, 11] [0, 12, 13, 14, 15] [0, 5, 6, 7, 8, 9, 10, 11, 12, 13, 14, 15, 1, 2, 3, 4] rfl rfl rfl (fun _u => [(r, .inr (4, [.ref th]))] ++ hw K th ta (if 1 ≤ 1 ∧ 1 ≤ 99 then hPass U 1 else U) ++ cw K c b C) (fun _ => rfl) 0 2 rfl rfl rfl rfl hl.1 rfl (Nat.le_of_ble_eq_true rfl) (Nat.le_of_ble_eq_true rfl) (Nat.le_of_ble_eq_true rfl) dX4_simulateDay_106 (fun r106 _ H locs hq106 hP hD hS => ?_)
      have hP : va_P K.1 vwCl ([(r, .inr (4, [.ref th]))] ++ hw K th ta (if 1 ≤ 1 ∧ 1 ≤ 99 then hPass U 1 else U) ++ cw K c b C) H := hP
      have hD : va_D A ([(r, .inr (4, [.ref th]))] ++ hw K th ta (if 1 ≤ 1 ∧ 1 ≤ 99 then hPass U 1 else U) ++ cw K c b C) := hD
      subst hq106
      refine lv_pop hx hb dX4_simulateDay_109 rfl ?_
      have eS1 : (if 1 ≤ 1 ∧ 1 ≤ 99 then hPass U 1 else U) = sdS U R P x := by (simp [sdS, c_9, e28_2]; done)
      rw [eS1] at hP hD
      exact hend _ _ _ _ _ _ C hP hD hS (Nat.le_of_ble_eq_true rfl) (Nat.le_of_ble_eq_true rfl) trivial dX4_simulateDay_110
    refine lv_tableOut (tgt := 111) hx hb dX4_simulateDay_28 (by rw [show nI (x % 8) = nI (x % 8) from rfl, nI_toInt (by omega)]; omega) (by decide) ?_
    refine lv_aload_n hx hb dX4_simulateDay_111 rfl (lv_at hl 2 rfl) ?_
    refine va_get (ci := 4) (v := .ref th) (C := RX4) (T := TX4) (N := 1) hx hb hts hi4 hown hK hP 0 rfl rfl 0 (by decide) lk12 (fun _ h9 => h9) rfl dX4_simulateDay_112 ?_
    refine lv_aload_n hx hb dX4_simulateDay_115 rfl (lv_at hl 4 rfl) ?_
    refine xw_Vi (As := [.ref c]) (rest := []) (wc := hw K th ta U ++ cw K c b C) (wr := (List.filterMap (fun i => ([(r, .inr (4, [.ref th]))] ++ hw K th ta U ++ cw K c b C : va_W)[i]?) ([0] : List Nat))) ⟨hx, hb, hml, hown, hts⟩ (c_X2_playDay l K th ta U c b C R hR0 (by omega) P hP0 (by omega) H.size) (cwV 1 hts gX4_simulateDay_X2_playDay rfl rfl rfl (by decide +kernel) ⟨Nat.le_of_ble_eq_true rfl, Nat.le_of_ble_eq_true rfl⟩) hK hP hD hS hA [1, 2, 3, 4, 5, 6, 7, 8, 9, 10, 11, 12, 13, 14, 15] [0] [0, 1, 2, 3, 4, 5, 6, 7, 8, 9, 10, 11, 12, 13, 14, 15] rfl rfl rfl (fun D116 => [(r, .inr (4, [.ref th]))] ++ hw K th ta (hPlay U R P) ++ cw K c b D116) (fun _ => rfl) 0 2 rfl rfl rfl rfl hl.1 rfl (Nat.le_of_ble_eq_true rfl) (Nat.le_of_ble_eq_true rfl) (Nat.le_of_ble_eq_true rfl) dX4_simulateDay_116 (fun r116 D116 H locs hq116 hP hD hS => ?_)
    have hP : va_P K.1 vwCl ([(r, .inr (4, [.ref th]))] ++ hw K th ta (hPlay U R P) ++ cw K c b D116) H := hP
    have hD : va_D A ([(r, .inr (4, [.ref th]))] ++ hw K th ta (hPlay U R P) ++ cw K c b D116) := hD
    subst hq116
    refine lv_pop hx hb dX4_simulateDay_119 rfl ?_
    have eS1 : (hPlay U R P) = sdS U R P x := by (simp [sdS, c_9, e28_0, e28_1, e28_2]; done)
    rw [eS1] at hP hD
    exact hend _ _ _ _ _ _ D116 hP hD hS (Nat.le_of_ble_eq_true rfl) (Nat.le_of_ble_eq_true rfl) trivial dX4_simulateDay_120

abbrev rm_X4_simulated : Room := { frames := 6, cells := 0, slots := 0, locals := 141 }
set_option maxHeartbeats 4000000 in
set_option maxRecDepth 100000 in
theorem c_X4_simulated (l : Launch) (K : KX) (r : Nat) (th : Nat) (ta : Nat → Nat) (U : HV) (x : Int64) (m : Nat) (hm : m < 2147483648) (c : Nat) (b : Nat → Nat) (C : HV) (R : Nat) (hR0 : U 10 0 = nI R) (hR0b : R ≤ 6) (P : Nat) (hP0 : U 11 0 = nI P) (hP0b : P ≤ 10) (sz : Nat) : Met l yX4_simulated wsX4_simulated rm_X4_simulated (va_Pc [.ref r, .long x, .int (nI m), .ref c] (xPre K ([(r, .inr (4, [.ref th]))] ++ hw K th ta U ++ cw K c b C) sz)) (va_Qi (fun (r9 : Int32) (u9 : HV × HV) => r9 = simR U R P x m) (fun u9 t => xPost K (va_A ([(r, .inr (4, [.ref th]))] ++ hw K th ta U ++ cw K c b C) sz) ([(r, .inr (4, [.ref th]))] ++ hw K th ta u9.1 ++ cw K c b u9.2) t) (va_A ([(r, .inr (4, [.ref th]))] ++ hw K th ta U ++ cw K c b C) sz)) 0 0 (va_A ([(r, .inr (4, [.ref th]))] ++ hw K th ta U ++ cw K c b C) sz) := by
  refine xw_starti (cc := cX4_simulated) (maxL := 10) (by decide) rfl (Nat.le_of_ble_eq_true rfl) ?_
  intro p9 e9 s9 m9 below9 meth9 c9 H locs ls A av9 Q9 hx hb hlocks hml hname hts hown hK hP hD hS hA hsz hend hl
  have hown : s9.vm.findClass RX4 = some m9.cls := hown
  have hl : lv_has ls 10 [(0, .ref r), (1, .long x), (3, .int (nI m)), (4, .ref c)] := hl
  have hi4 : ∀ w ∈ u_ws RX4 TX4 1, w ∈ wsX4_simulated := by decide +kernel
  have lk12 := hts (.fieldLink RX4 12 "StandIns$Trial" "house" "LStandIns$House;") (by decide +kernel)
  refine lv_aload_n hx hb dX4_simulated_0 rfl (lv_at hl 0 rfl) ?_
  refine va_get (ci := 4) (v := .ref th) (C := RX4) (T := TX4) (N := 1) hx hb hts hi4 hown hK hP 0 rfl rfl 0 (by decide) lk12 (fun _ h9 => h9) rfl dX4_simulated_1 ?_
  have hPc := P_sub (ws' := hw K th ta U) hP [1, 2, 3, 4, 5, 6, 7, 8, 9, 10, 11] rfl
  refine xr_V (As := []) (rest := []) ⟨hx, hb, hml, hown, hts⟩ (c_X2_playerCount l K th ta U) (cwV 0 hts gX4_simulated_X2_playerCount rfl rfl rfl (by decide +kernel) ⟨Nat.le_of_ble_eq_true rfl, Nat.le_of_ble_eq_true rfl⟩) hK hPc 0 2 rfl rfl rfl rfl hl.1 rfl (Nat.le_of_ble_eq_true rfl) (Nat.le_of_ble_eq_true rfl) (Nat.le_of_ble_eq_true rfl) dX4_simulated_4 ?_
  refine xn_if_eq (tgt := 20) hx hb P hP0 (by omega) dX4_simulated_7 (by decide) (fun c_7 => ?_) (fun c_7 => ?_)
  · skip
    refine lv_iconst (v := (0 : Int32)) hx hb dX4_simulated_20 (by decide) ?_
    exact hend _ _ _ _ _ _ _ (U, C) hP hD hS (Nat.le_of_ble_eq_true rfl) (Nat.le_of_ble_eq_true rfl) (by (simp only [simR]; rw [if_pos (by omega)])) dX4_simulated_21
  · skip
    refine lv_aload_n hx hb dX4_simulated_10 rfl (lv_at hl 0 rfl) ?_
    refine va_get (ci := 4) (v := .ref th) (C := RX4) (T := TX4) (N := 1) hx hb hts hi4 hown hK hP 0 rfl rfl 0 (by decide) lk12 (fun _ h9 => h9) rfl dX4_simulated_11 ?_
    have hPc := P_sub (ws' := hw K th ta U) hP [1, 2, 3, 4, 5, 6, 7, 8, 9, 10, 11] rfl
    refine xr_V (As := []) (rest := []) ⟨hx, hb, hml, hown, hts⟩ (c_X2_roleCount l K th ta U) (cwV 0 hts gX4_simulated_X2_roleCount rfl rfl rfl (by decide +kernel) ⟨Nat.le_of_ble_eq_true rfl, Nat.le_of_ble_eq_true rfl⟩) hK hPc 0 2 rfl rfl rfl rfl hl.1 rfl (Nat.le_of_ble_eq_true rfl) (Nat.le_of_ble_eq_true rfl) (Nat.le_of_ble_eq_true rfl) dX4_simulated_14 ?_
    refine xn_if_ne (tgt := 22) hx hb R hR0 (by omega) dX4_simulated_17 (by decide) (fun c_17 => ?_) (fun c_17 => ?_)
    · skip
      refine lv_aload_n hx hb dX4_simulated_22 rfl (lv_at hl 0 rfl) ?_
      refine va_get (ci := 4) (v := .ref th) (C := RX4) (T := TX4) (N := 1) hx hb hts hi4 hown hK hP 0 rfl rfl 0 (by decide) lk12 (fun _ h9 => h9) rfl dX4_simulated_23 ?_
      have hPc := P_sub (ws' := hw K th ta U) hP [1, 2, 3, 4, 5, 6, 7, 8, 9, 10, 11] rfl
      refine xr_V (As := []) (rest := []) ⟨hx, hb, hml, hown, hts⟩ (c_X2_performedCount l K th ta U) (cwV 0 hts gX4_simulated_X2_performedCount rfl rfl rfl (by decide +kernel) ⟨Nat.le_of_ble_eq_true rfl, Nat.le_of_ble_eq_true rfl⟩) hK hPc 0 2 rfl rfl rfl rfl hl.1 rfl (Nat.le_of_ble_eq_true rfl) (Nat.le_of_ble_eq_true rfl) (Nat.le_of_ble_eq_true rfl) dX4_simulated_26 ?_
      refine lv_istore (lv' := [(5, .int (U 13 0)), (0, .ref r), (1, .long x), (3, .int (nI m)), (4, .ref c)]) hx hb dX4_simulated_29 hl (by decide) rfl (fun ls hl => ?_)
      refine lv_aload_n hx hb dX4_simulated_31 rfl (lv_at hl 1 rfl) ?_
      refine va_get (ci := 4) (v := .ref th) (C := RX4) (T := TX4) (N := 1) hx hb hts hi4 hown hK hP 0 rfl rfl 0 (by decide) lk12 (fun _ h9 => h9) rfl dX4_simulated_32 ?_
      have hPc := P_sub (ws' := hw K th ta U) hP [1, 2, 3, 4, 5, 6, 7, 8, 9, 10, 11] rfl
      refine xr_V (As := []) (rest := []) ⟨hx, hb, hml, hown, hts⟩ (c_X2_calledOffCount l K th ta U) (cwV 0 hts gX4_simulated_X2_calledOffCount rfl rfl rfl (by decide +kernel) ⟨Nat.le_of_ble_eq_true rfl, Nat.le_of_ble_eq_true rfl⟩) hK hPc 0 2 rfl rfl rfl rfl hl.1 rfl (Nat.le_of_ble_eq_true rfl) (Nat.le_of_ble_eq_true rfl) (Nat.le_of_ble_eq_true rfl) dX4_simulated_35 ?_
      refine lv_istore (lv' := [(6, .int (U 14 0)), (5, .int (U 13 0)), (0, .ref r), (1, .long x), (3, .int (nI m)), (4, .ref c)]) hx hb dX4_simulated_38 hl (by decide) rfl (fun ls hl => ?_)
      refine lv_lload_n hx hb dX4_simulated_40 rfl (lv_at hl 3 rfl) ?_
      refine lv_lstore (lv' := [(7, .long x), (6, .int (U 14 0)), (5, .int (U 13 0)), (0, .ref r), (1, .long x), (3, .int (nI m)), (4, .ref c)]) hx hb dX4_simulated_41 hl (by decide) rfl (fun ls hl => ?_)
      refine lv_iconst (v := (0 : Int32)) hx hb dX4_simulated_43 (by decide) ?_
      refine lv_istore (lv' := [(9, .int (0 : Int32)), (7, .long x), (6, .int (U 14 0)), (5, .int (U 13 0)), (0, .ref r), (1, .long x), (3, .int (nI m)), (4, .ref c)]) hx hb dX4_simulated_44 hl (by decide) rfl (fun ls hl => ?_)
      have lp46 : ∀ (n9 : Nat) (k : Nat) (E : HV) (H : Heap) (locs : List Loc) (ls : Array Slot), m - k < n9 → (k ≤ m) → va_P K.1 vwCl ([(r, .inr (4, [.ref th]))] ++ hw K th ta (smS U R P x k) ++ cw K c b E) H → va_D A ([(r, .inr (4, [.ref th]))] ++ hw K th ta (smS U R P x k) ++ cw K c b E) → va_S A s9.heap H locs → lv_has ls 10 [(0, .ref r), (1, .long x), (3, .int (nI m)), (4, .ref c), (5, .int (U 13 0)), (6, .int (U 14 0)), (7, .long (smX x k)), (9, .int (nI k))] → W p9 l e9 rm_X4_simulated s9 m9 av9 below9 meth9 c9 H locs 0 0 Q9 (F0 m9 46 ls []) := by
        intro n9
        induction n9 with
        | zero => intro k E H locs ls hmu hk hP hD hS hl; exact absurd hmu (Nat.not_lt_zero _)
        | succ n9 ih46 =>
          intro k E H locs ls hmu hk hP hD hS hl
          refine lv_iload hx hb dX4_simulated_46 (lv_at hl 7 rfl) ?_
          refine lv_iload_n hx hb dX4_simulated_48 rfl (lv_at hl 2 rfl) ?_
          refine xn_icmp_ge (tgt := 82) hx hb k m rfl rfl (by omega) (by omega) dX4_simulated_49 (by decide) (fun c_49 => ?_) (fun c_49 => ?_)
          · skip
            refine lv_sipush (v := (1000 : Int32)) hx hb dX4_simulated_82 (by decide) ?_
            refine lv_aload_n hx hb dX4_simulated_85 rfl (lv_at hl 0 rfl) ?_
            refine va_get (ci := 4) (v := .ref th) (C := RX4) (T := TX4) (N := 1) hx hb hts hi4 hown hK hP 0 rfl rfl 0 (by decide) lk12 (fun _ h9 => h9) rfl dX4_simulated_86 ?_
            have hPc := P_sub (ws' := hw K th ta (smS U R P x k)) hP [1, 2, 3, 4, 5, 6, 7, 8, 9, 10, 11] rfl
            refine xr_V (As := []) (rest := [.int (1000 : Int32)]) ⟨hx, hb, hml, hown, hts⟩ (c_X2_performedCount l K th ta (smS U R P x k)) (cwV 0 hts gX4_simulated_X2_performedCount rfl rfl rfl (by decide +kernel) ⟨Nat.le_of_ble_eq_true rfl, Nat.le_of_ble_eq_true rfl⟩) hK hPc 0 2 rfl rfl rfl rfl hl.1 rfl (Nat.le_of_ble_eq_true rfl) (Nat.le_of_ble_eq_true rfl) (Nat.le_of_ble_eq_true rfl) dX4_simulated_89 ?_
            refine lv_iload hx hb dX4_simulated_92 (lv_at hl 4 rfl) ?_
            refine lv_isub hx hb dX4_simulated_94 ?_
            refine lv_imul hx hb dX4_simulated_95 ?_
            refine lv_aload_n hx hb dX4_simulated_96 rfl (lv_at hl 0 rfl) ?_
            refine va_get (ci := 4) (v := .ref th) (C := RX4) (T := TX4) (N := 1) hx hb hts hi4 hown hK hP 0 rfl rfl 0 (by decide) lk12 (fun _ h9 => h9) rfl dX4_simulated_97 ?_
            have hPc := P_sub (ws' := hw K th ta (smS U R P x k)) hP [1, 2, 3, 4, 5, 6, 7, 8, 9, 10, 11] rfl
            refine xr_V (As := []) (rest := [.int ((1000 : Int32) * (((smS U R P x k) 13 0) - (U 13 0)))]) ⟨hx, hb, hml, hown, hts⟩ (c_X2_calledOffCount l K th ta (smS U R P x k)) (cwV 0 hts gX4_simulated_X2_calledOffCount rfl rfl rfl (by decide +kernel) ⟨Nat.le_of_ble_eq_true rfl, Nat.le_of_ble_eq_true rfl⟩) hK hPc 0 2 rfl rfl rfl rfl hl.1 rfl (Nat.le_of_ble_eq_true rfl) (Nat.le_of_ble_eq_true rfl) (Nat.le_of_ble_eq_true rfl) dX4_simulated_100 ?_
            refine lv_iadd hx hb dX4_simulated_103 ?_
            refine lv_iload hx hb dX4_simulated_104 (lv_at hl 5 rfl) ?_
            refine lv_isub hx hb dX4_simulated_106 ?_
            exact hend _ _ _ _ _ _ _ (smS U R P x k, E) hP hD hS (Nat.le_of_ble_eq_true rfl) (Nat.le_of_ble_eq_true rfl) (by (simp only [simR]; rw [if_neg (by omega), show k = m by omega])) dX4_simulated_107
          · skip
            refine lv_lload hx hb dX4_simulated_52 (lv_at hl 6 rfl) ?_
            refine lv_ldc2 (v := (6364136223846793005 : Int64)) hx hb hown (hts (.constantLong RX4 91 (6364136223846793005)) (by decide +kernel)) dX4_simulated_54 ?_
            refine lv_lmul hx hb dX4_simulated_57 ?_
            refine lv_ldc2 (v := (1442695040888963407 : Int64)) hx hb hown (hts (.constantLong RX4 93 (1442695040888963407)) (by decide +kernel)) dX4_simulated_58 ?_
            refine lv_ladd hx hb dX4_simulated_61 ?_
            refine lv_lstore (lv' := [(7, .long (((smX x k) * (6364136223846793005 : Int64)) + (1442695040888963407 : Int64))), (0, .ref r), (1, .long x), (3, .int (nI m)), (4, .ref c), (5, .int (U 13 0)), (6, .int (U 14 0)), (9, .int (nI k))]) hx hb dX4_simulated_62 hl (by decide) rfl (fun ls hl => ?_)
            refine lv_aload_n hx hb dX4_simulated_64 rfl (lv_at hl 1 rfl) ?_
            refine lv_lload hx hb dX4_simulated_65 (lv_at hl 0 rfl) ?_
            refine lv_bipush (v := (33 : Int32)) hx hb dX4_simulated_67 (by decide) ?_
            refine lv_lushr (v := ((((smX x k) * (6364136223846793005 : Int64)) + (1442695040888963407 : Int64)).toUInt64 >>> ((33 : Int32).toInt64.toUInt64 &&& Int64.toUInt64 63)).toInt64) hx hb dX4_simulated_69 rfl ?_
            refine lv_l2i (v := nI (rN (smX x (k + 1)))) hx hb dX4_simulated_70 (rN_eq (smX x (k + 1))) ?_
            refine lv_aload hx hb dX4_simulated_71 (lv_at hl 4 rfl) ?_
            refine xw_Vv (As := [.int (nI (rN (smX x (k + 1)))), .ref c]) (rest := []) (wc := [(r, .inr (4, [.ref th]))] ++ hw K th ta (smS U R P x k) ++ cw K c b E) (wr := (List.filterMap (fun i => ([(r, .inr (4, [.ref th]))] ++ hw K th ta (smS U R P x k) ++ cw K c b E : va_W)[i]?) ([] : List Nat))) ⟨hx, hb, hml, hown, hts⟩ (c_X4_simulateDay l K r th ta (smS U R P x k) (rN (smX x (k + 1))) (by exact rN_lt _) c b E R (kp_sm (by decide) hR0 k) (by omega) P (kp_sm (by decide) hP0 k) (by omega) (by first | assumption | omega) H.size) (cwV 2 hts gX4_simulated_X4_simulateDay rfl rfl rfl (by decide +kernel) ⟨Nat.le_of_ble_eq_true rfl, Nat.le_of_ble_eq_true rfl⟩) hK hP hD hS hA [0, 1, 2, 3, 4, 5, 6, 7, 8, 9, 10, 11, 12, 13, 14, 15] [] [0, 1, 2, 3, 4, 5, 6, 7, 8, 9, 10, 11, 12, 13, 14, 15] rfl rfl rfl (fun D73 => [(r, .inr (4, [.ref th]))] ++ hw K th ta (sdS (smS U R P x k) R P (rN (smX x (k + 1)))) ++ cw K c b D73) (fun _ => rfl) 0 4 rfl rfl rfl rfl hl.1 rfl (Nat.le_of_ble_eq_true rfl) (Nat.le_of_ble_eq_true rfl) (Nat.le_of_ble_eq_true rfl) dX4_simulated_73 (fun D73 H locs hq73 hP hD hS => ?_)
            have hP : va_P K.1 vwCl ([(r, .inr (4, [.ref th]))] ++ hw K th ta (sdS (smS U R P x k) R P (rN (smX x (k + 1)))) ++ cw K c b D73) H := hP
            have hD : va_D A ([(r, .inr (4, [.ref th]))] ++ hw K th ta (sdS (smS U R P x k) R P (rN (smX x (k + 1)))) ++ cw K c b D73) := hD
            refine lv_iinc (v := nI (k + 1)) (lv' := [(9, .int (nI (k + 1))), (7, .long (((smX x k) * (6364136223846793005 : Int64)) + (1442695040888963407 : Int64))), (0, .ref r), (1, .long x), (3, .int (nI m)), (4, .ref c), (5, .int (U 13 0)), (6, .int (U 14 0))]) hx hb dX4_simulated_76 hl (k := 7) rfl (nI_1 _) (by decide) rfl (fun ls hl => ?_)
            refine lv_goto (tgt := 46) hx hb dX4_simulated_79 (by decide) ?_
            have eS1 : (sdS (smS U R P x k) R P (rN (smX x (k + 1)))) = smS U R P x (k + 1) := by rfl
            have hP : va_P K.1 vwCl ([(r, .inr (4, [.ref th]))] ++ hw K th ta (smS U R P x (k + 1)) ++ cw K c b D73) H := by rw [← eS1]; exact hP
            have hD : va_D A ([(r, .inr (4, [.ref th]))] ++ hw K th ta (smS U R P x (k + 1)) ++ cw K c b D73) := by rw [← eS1]; exact hD
            exact ih46 (k + 1) D73 _ _ _ (by omega) (by first | omega | assumption | first | rfl | (simp [c_7, c_17, c_49]; done) | omega) hP hD hS (lv_cons (lv_at hl 2 rfl) (lv_cons (lv_at hl 3 rfl) (lv_cons (lv_at hl 4 rfl) (lv_cons (lv_at hl 5 rfl) (lv_cons (lv_at hl 6 rfl) (lv_cons (lv_at hl 7 rfl) (lv_cons (lv_isL (lv_at hl 1 rfl) (show ((smX x k) * (6364136223846793005 : Int64)) + (1442695040888963407 : Int64) = smX x (k + 1) by rfl)) (lv_cons (lv_at hl 0 rfl) (lv_nil hl)))))))))
      have eS1 : (U) = smS U R P x 0 := by rfl
      have hP : va_P K.1 vwCl ([(r, .inr (4, [.ref th]))] ++ hw K th ta (smS U R P x 0) ++ cw K c b C) H := by rw [← eS1]; exact hP
      have hD : va_D A ([(r, .inr (4, [.ref th]))] ++ hw K th ta (smS U R P x 0) ++ cw K c b C) := by rw [← eS1]; exact hD
      exact lp46 _ 0 C _ _ _ (Nat.lt_succ_self _) (by first | omega | assumption | first | rfl | (simp [c_7, c_17]; done) | omega) hP hD hS (lv_cons (lv_at hl 4 rfl) (lv_cons (lv_at hl 5 rfl) (lv_cons (lv_at hl 6 rfl) (lv_cons (lv_at hl 7 rfl) (lv_cons (lv_at hl 3 rfl) (lv_cons (lv_at hl 2 rfl) (lv_cons (lv_isL (lv_at hl 1 rfl) (show x = smX x 0 by rfl)) (lv_cons (lv_is (lv_at hl 0 rfl) (show (0 : Int32) = nI 0 by rfl)) (lv_nil hl)))))))))
    · skip
      refine lv_iconst (v := (0 : Int32)) hx hb dX4_simulated_20 (by decide) ?_
      exact hend _ _ _ _ _ _ _ (U, C) hP hD hS (Nat.le_of_ble_eq_true rfl) (Nat.le_of_ble_eq_true rfl) (by (simp only [simR]; rw [if_pos (by omega)])) dX4_simulated_21

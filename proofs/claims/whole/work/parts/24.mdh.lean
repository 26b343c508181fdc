/-! the model: houses in texts -/
def tellsF (ch : Nat → Nat) (f : Nat → Int32) (n : Nat) : Prop := ∀ j, j < n → f (4 * j) = nI (ch (posC ch j)) ∧ ∀ i, 1 ≤ i → i ≤ dgB (ch (posC ch j)) → f (4 * j + i) = nI (ch (posC ch j + i) - 48)
theorem posC_ge (ch : Nat → Nat) : ∀ k, k + 1 ≤ posC ch k
  | 0 => Nat.le_refl _
  | k + 1 => by
    have := posC_ge ch k
    rw [posC]
    omega
theorem posC_mono (ch : Nat → Nat) : ∀ d k, posC ch k + d ≤ posC ch (k + d)
  | 0, _ => Nat.le_refl _
  | d + 1, k => by
    have := posC_mono ch d k
    rw [show k + (d + 1) = (k + d) + 1 by omega, posC]
    omega
theorem posC_lt {ch : Nat → Nat} {j k : Nat} (h : j < k) : posC ch j < posC ch k := by
  have := posC_mono ch (k - j) j
  rw [show j + (k - j) = k by omega] at this
  omega
/-- the number of commands is one -/
theorem posC_uni {ch : Nat → Nat} {L m n : Nat} (a1 : L ≤ posC ch m) (a2 : ∀ j, j < m → posC ch j < L) (b1 : L ≤ posC ch n) (b2 : ∀ j, j < n → posC ch j < L) : m = n := by
  rcases Nat.lt_trichotomy m n with c | c | c
  · have := b2 m c
    omega
  · exact c
  · have := a2 n c
    omega
theorem tells_s {ch : Nat → Nat} {f g : Nat → Int32} {k : Nat} (h : tellsF ch g k) (ht : tdOK ch f g (posC ch k) k) : tellsF ch f (k + 1) := by
  intro j hj
  rcases Nat.lt_succ_iff_lt_or_eq.mp hj with z | z
  · obtain ⟨h1, h2⟩ := h j z
    refine ⟨(ht.2.2 _ (by omega)).trans h1, fun i a b => ?_⟩
    have := dgB_le (ch (posC ch j))
    exact (ht.2.2 _ (by omega)).trans (h2 i a b)
  · subst z
    exact ⟨ht.1, ht.2.1⟩
theorem fe_bad {ch : Nat → Nat} {L n y u : Nat} (hL : L < 2 ^ 30) (hy : y < L) (hn : L ≤ y + n) (ho : ¬ okC ch L y) (hu : u ≤ L) (e : nI u = cmE ch L y) : feF ch L n y = nI u ∧ ¬ feF ch L n y = -1 := by
  have h0 : feF ch L n y = nI u := by
    rw [feF_s hy hn, e, cmE]
    by_cases c : isC (ch y)
    · have hb : ¬ ebF ch L y 1 (dgB (ch y)) = -1 := fun z => ho ((okC_eb (by omega)).mpr ⟨c, z⟩)
      simp only [c, not_true_eq_false, if_false, hb]
    · simp only [c, not_false_eq_true, if_true]
  exact ⟨h0, fun z => nI_m1 (show u < 2 ^ 31 by omega) (h0.symm.trans z)⟩
theorem fe_ok {ch : Nat → Nat} {L n y : Nat} (hL : L < 2 ^ 30) (hy : y < L) (hn : L ≤ y + n) (ho : okC ch L y) : feF ch L n y = feF ch L (n - 1) (y + (1 + dgB (ch y))) := by
  have h := (okC_eb (show L < 2 ^ 31 by omega)).mp ho
  rw [feF_s hy hn, if_neg (fun z => z h.1), if_pos h.2]
/-- what is told of a text -/
def hsP (ch : Nat → Nat) (L : Nat) (r : Int32) (f : Nat → Int32) (n y : Nat) : Prop := r = bI (ferF ch L = -1) ∧ (ferF ch L = -1 → L ≤ posC ch n ∧ (∀ j, j < n → posC ch j < L) ∧ tellsF ch f n) ∧ (¬ ferF ch L = -1 → nI y = ferF ch L) ∧ n ≤ 119
theorem hs_bad {ch : Nat → Nat} {L n m y u k : Nat} {f : Nat → Int32} (hL : L < 2 ^ 30) (hF : ferF ch L = feF ch L n y) (hy : y < L) (hn : L ≤ y + n) (hk : k ≤ 119) (ho : ¬ okC ch L y) (hu : u ≤ L) (e : nI u = cmE ch L y) (hm : m = k) : hsP ch L 0 f m u := by
  subst hm
  obtain ⟨h1, h2⟩ := fe_bad hL hy hn ho hu e
  have h3 : ¬ ferF ch L = -1 := hF ▸ h2
  exact ⟨(bI_f h3).symm, fun z => absurd z h3, fun _ => by rw [hF, h1], hk⟩
theorem hs_good {ch : Nat → Nat} {L n k u : Nat} {f : Nat → Int32} (hF : ferF ch L = feF ch L n (posC ch k)) (hp : L ≤ posC ch k) (hj : ∀ j, j < k → posC ch j < L) (ht : tellsF ch f k) (hk : k ≤ 119) : hsP ch L 1 f k u := by
  have h3 : ferF ch L = -1 := by rw [hF, feF_e hp]
  exact ⟨(bI_t h3).symm, fun _ => ⟨hp, hj, ht⟩, fun z => absurd h3 z, hk⟩
theorem hs_0 {ch : Nat → Nat} {L : Nat} {f : Nat → Int32} (h : ¬ (0 < L ∧ 72 ≤ ch 0 ∧ ch 0 ≤ 72)) : hsP ch L 0 f 0 0 := by
  have h3 : ferF ch L = 0 := by
    unfold ferF
    rw [if_pos (by omega)]
  have h4 : ¬ ferF ch L = -1 := by rw [h3]; decide
  exact ⟨(bI_f h4).symm, fun z => absurd z h4, fun _ => h3.symm, by omega⟩
theorem hs_1 {ch : Nat → Nat} {L : Nat} (h : 0 < L ∧ 72 ≤ ch 0 ∧ ch 0 ≤ 72) : ferF ch L = feF ch L 120 (posC ch 0) := by
  unfold ferF
  rw [if_neg (by omega)]
  rfl

theorem bI_ne1 {P : Prop} {inst : Decidable P} {r : Int32} (h : r = @bI P inst) (c : ¬ r = 0) : P := by
  rw [h] at c
  exact Decidable.byContradiction fun z => c (bI_f z)
theorem bI_eq1 {P : Prop} {inst : Decidable P} {r : Int32} (h : r = @bI P inst) (c : r = 0) : ¬ P := bI_eq0.mp (h.symm.trans c)
abbrev rm_X6_isHouse : Room := { frames := 4, cells := 0, slots := 0, locals := 90 }
set_option maxHeartbeats 4000000 in
set_option maxRecDepth 100000 in
theorem c_X6_isHouse (l : Launch) (K : KX) (h : Nat) (a : Nat → Nat) (M : HV) (L : Nat) (hL0 : M 7 0 = nI L) (hL0b : L ≤ 120) (ch : Nat → Nat) (htx : ∀ i, i < L → M 6 i = nI (ch i) ∧ ch i < 256) (sz : Nat) : Met l yX6_isHouse wsX6_isHouse rm_X6_isHouse (va_Pc [.ref h] (xPre K (mw K h a M) sz)) (va_Qi (fun (r9 : Int32) (u9 : (Nat → Int32) × Nat × Nat) => hsP ch L r9 u9.1 u9.2.1 u9.2.2) (fun u9 t => xPost K (va_A (mw K h a M) sz) (mw K h a (hput (hput (hrow M 11 u9.1) 12 (nI u9.2.1)) 13 (nI u9.2.2))) t) (va_A (mw K h a M) sz)) 0 0 (va_A (mw K h a M) sz) := by
  refine xw_startz (cc := cX6_isHouse) (maxL := 1) (ret := .boolean) (by decide) rfl (Nat.le_of_ble_eq_true rfl) ?_
  intro p9 e9 s9 m9 below9 meth9 c9 H locs ls A av9 Q9 hx hb hlocks hml hname hts hown hK hP hD hS hA hsz hend hl
  have hown : s9.vm.findClass RX6 = some m9.cls := hown
  have hl : lv_has ls 1 [(0, .ref h)] := hl
  have hi6 : ∀ w ∈ u_ws RX6 TX6 14, w ∈ wsX6_isHouse := by decide +kernel
  have lk100 := hts (.fieldLink RX6 100 "StandInsModel" "at" "I") (by decide +kernel)
  have lk107 := hts (.fieldLink RX6 107 "StandInsModel" "tolds" "I") (by decide +kernel)
  have lk97 := hts (.fieldLink RX6 97 "StandInsModel" "typed" "I") (by decide +kernel)
  refine lv_aload_n hx hb dX6_isHouse_0 rfl (lv_at hl 0 rfl) ?_
  refine lv_iconst (v := (0 : Int32)) hx hb dX6_isHouse_1 (by decide) ?_
  refine va_put (ci := 6) (v := .int (0 : Int32)) (ty := .int) (C := RX6) (T := TX6) (N := 14) hx hb hts hi6 tyX6 tyX6_ok nmX6 hown hK hP hD hS 0 rfl rfl 13 (by decide) lk100 (fun _ h9 => h9) rfl (by decide +kernel) rfl rfl (Nat.le_of_ble_eq_true rfl) dX6_isHouse_2 (fun H locs hP hD hS => ?_)
  have hP : va_P K.1 vwCl (mw K h a (hput M 13 (0 : Int32))) H := hP
  have hD : va_D A (mw K h a (hput M 13 (0 : Int32))) := hD
  refine lv_aload_n hx hb dX6_isHouse_5 rfl (lv_at hl 0 rfl) ?_
  refine lv_iconst (v := (0 : Int32)) hx hb dX6_isHouse_6 (by decide) ?_
  refine va_put (ci := 6) (v := .int (0 : Int32)) (ty := .int) (C := RX6) (T := TX6) (N := 14) hx hb hts hi6 tyX6 tyX6_ok nmX6 hown hK hP hD hS 0 rfl rfl 12 (by decide) lk107 (fun _ h9 => h9) rfl (by decide +kernel) rfl rfl (Nat.le_of_ble_eq_true rfl) dX6_isHouse_7 (fun H locs hP hD hS => ?_)
  have hP : va_P K.1 vwCl (mw K h a (hput (hput M 12 (0 : Int32)) 13 (0 : Int32))) H := hP
  have hD : va_D A (mw K h a (hput (hput M 12 (0 : Int32)) 13 (0 : Int32))) := hD
  refine lv_aload_n hx hb dX6_isHouse_10 rfl (lv_at hl 0 rfl) ?_
  refine lv_bipush (v := (72 : Int32)) hx hb dX6_isHouse_11 (by decide) ?_
  refine lv_bipush (v := (72 : Int32)) hx hb dX6_isHouse_13 (by decide) ?_
  have hPc : va_P K.1 vwCl (mw K h a (hput (hput M 12 (0 : Int32)) 13 (0 : Int32))) H := hP
  refine xr_V (As := [.int (72 : Int32), .int (72 : Int32)]) (rest := []) ⟨hx, hb, hml, hown, hts⟩ (c_X6_isAt l K h a (hput (hput M 12 (0 : Int32)) 13 (0 : Int32)) 72 (by omega) 72 (by omega) L hL0 (by omega) 0 rfl (by omega) ch (by first | assumption | omega)) (cwV 2 hts gX6_isHouse_X6_isAt rfl rfl rfl (by decide +kernel) ⟨Nat.le_of_ble_eq_true rfl, Nat.le_of_ble_eq_true rfl⟩) hK hPc 0 6 rfl rfl rfl rfl hl.1 rfl (Nat.le_of_ble_eq_true rfl) (Nat.le_of_ble_eq_true rfl) (Nat.le_of_ble_eq_true rfl) dX6_isHouse_15 ?_
  refine xb_if_ne (tgt := 23) hx hb dX6_isHouse_18 (by decide) (fun c_18 => ?_) (fun c_18 => ?_)
  · skip
    have hq18 : 0 < L ∧ 72 ≤ ch 0 ∧ ch 0 ≤ 72 := c_18
    refine lv_aload_n hx hb dX6_isHouse_23 rfl (lv_at hl 0 rfl) ?_
    refine lv_dup hx hb dX6_isHouse_24 rfl ?_
    refine va_get (ci := 6) (v := .int (0 : Int32)) (C := RX6) (T := TX6) (N := 14) hx hb hts hi6 hown hK hP 0 rfl rfl 13 (by decide) lk100 (fun _ h9 => h9) rfl dX6_isHouse_25 ?_
    refine lv_iconst (v := (1 : Int32)) hx hb dX6_isHouse_28 (by decide) ?_
    refine lv_iadd hx hb dX6_isHouse_29 ?_
    rw [show (0 : Int32) + (1 : Int32) = nI (0 + 1) from (nn_add rfl rfl)]
    refine va_put (ci := 6) (v := .int (nI (0 + 1))) (ty := .int) (C := RX6) (T := TX6) (N := 14) hx hb hts hi6 tyX6 tyX6_ok nmX6 hown hK hP hD hS 0 rfl rfl 13 (by decide) lk100 (fun _ h9 => h9) rfl (by decide +kernel) rfl rfl (Nat.le_of_ble_eq_true rfl) dX6_isHouse_30 (fun H locs hP hD hS => ?_)
    have hP : va_P K.1 vwCl (mw K h a (hput (hput M 12 (0 : Int32)) 13 (nI (0 + 1)))) H := hP
    have hD : va_D A (mw K h a (hput (hput M 12 (0 : Int32)) 13 (nI (0 + 1)))) := hD
    have lp33 : ∀ (n9 : Nat) (k : Nat) (n : Nat) (f : Nat → Int32) (H : Heap) (locs : List Loc) (ls : Array Slot), 121 - posC ch k < n9 → (k ≤ 119) → (posC ch k ≤ 120) → (posC ch k ≤ L) → (L ≤ posC ch k + n) → (ferF ch L = feF ch L n (posC ch k)) → (∀ j, j < k → posC ch j < L) → (tellsF ch f k) → va_P K.1 vwCl (mw K h a (hput (hput (hrow M 11 f) 12 (nI k)) 13 (nI (posC ch k)))) H → va_D A (mw K h a (hput (hput (hrow M 11 f) 12 (nI k)) 13 (nI (posC ch k)))) → va_S A s9.heap H locs → lv_has ls 1 [(0, .ref h)] → W p9 l e9 rm_X6_isHouse s9 m9 av9 below9 meth9 c9 H locs 0 0 Q9 (F0 m9 33 ls []) := by
      intro n9
      induction n9 with
      | zero => intro k n f H locs ls hmu hk hpk hpL hn hF hjk htd hP hD hS hl; exact absurd hmu (Nat.not_lt_zero _)
      | succ n9 ih33 =>
        intro k n f H locs ls hmu hk hpk hpL hn hF hjk htd hP hD hS hl
        have hpg := posC_ge ch k
        refine lv_aload_n hx hb dX6_isHouse_33 rfl (lv_at hl 0 rfl) ?_
        refine va_get (ci := 6) (v := .int (nI (posC ch k))) (C := RX6) (T := TX6) (N := 14) hx hb hts hi6 hown hK hP 0 rfl rfl 13 (by decide) lk100 (fun _ h9 => h9) rfl dX6_isHouse_34 ?_
        refine lv_aload_n hx hb dX6_isHouse_37 rfl (lv_at hl 0 rfl) ?_
        refine va_get (ci := 6) (v := .int (M 7 0)) (C := RX6) (T := TX6) (N := 14) hx hb hts hi6 hown hK hP 0 rfl rfl 7 (by decide) lk97 (fun _ h9 => h9) rfl dX6_isHouse_38 ?_
        refine xn_icmp_ge (tgt := 66) hx hb (posC ch k) L rfl hL0 (by omega) (by omega) dX6_isHouse_41 (by decide) (fun c_41 => ?_) (fun c_41 => ?_)
        · skip
          refine lv_iconst (v := (1 : Int32)) hx hb dX6_isHouse_66 (by decide) ?_
          exact hend _ _ _ _ _ _ _ (by decide) (f, k, posC ch k) hP hD hS (Nat.le_of_ble_eq_true rfl) (Nat.le_of_ble_eq_true rfl) (by exact hs_good hF c_41 hjk htd hk) dX6_isHouse_67
        · skip
          refine lv_aload_n hx hb dX6_isHouse_44 rfl (lv_at hl 0 rfl) ?_
          refine xw_Vi (As := []) (rest := []) (wc := mw K h a (hput (hput (hrow M 11 f) 12 (nI k)) 13 (nI (posC ch k)))) (wr := (List.filterMap (fun i => (mw K h a (hput (hput (hrow M 11 f) 12 (nI k)) 13 (nI (posC ch k))) : va_W)[i]?) ([] : List Nat))) ⟨hx, hb, hml, hown, hts⟩ (c_X6_isCommand l K h a (hput (hput (hrow M 11 f) 12 (nI k)) 13 (nI (posC ch k))) L hL0 (by omega) (posC ch k) rfl (by omega) k rfl (by omega) ch (by first | assumption | omega) c_41 H.size) (cwV 0 hts gX6_isHouse_X6_isCommand rfl rfl rfl (by decide +kernel) ⟨Nat.le_of_ble_eq_true rfl, Nat.le_of_ble_eq_true rfl⟩) hK hP hD hS hA [0, 1, 2, 3, 4, 5, 6, 7, 8, 9] [] [0, 1, 2, 3, 4, 5, 6, 7, 8, 9] rfl rfl rfl (fun D45 => mw K h a (hput (hput (hrow M 11 D45.1) 12 (nI k)) 13 (nI D45.2))) (fun _ => rfl) 0 6 rfl rfl rfl rfl hl.1 rfl (Nat.le_of_ble_eq_true rfl) (Nat.le_of_ble_eq_true rfl) (Nat.le_of_ble_eq_true rfl) dX6_isHouse_45 (fun r45 D45 H locs hq45 hP hD hS => ?_)
          have hP : va_P K.1 vwCl (mw K h a (hput (hput (hrow M 11 D45.1) 12 (nI k)) 13 (nI D45.2))) H := hP
          have hD : va_D A (mw K h a (hput (hput (hrow M 11 D45.1) 12 (nI k)) 13 (nI D45.2))) := hD
          refine lv_if_ne (tgt := 53) hx hb dX6_isHouse_48 (by decide) (fun c_48 => ?_) (fun c_48 => ?_)
          · skip
            have hoc : okC ch L (posC ch k) := bI_ne1 hq45.1 c_48
            have hog := hq45.2.2.1 hoc
            have hul := hq45.2.1
            refine lv_aload_n hx hb dX6_isHouse_53 rfl (lv_at hl 0 rfl) ?_
            refine lv_dup hx hb dX6_isHouse_54 rfl ?_
            refine va_get (ci := 6) (v := .int (nI k)) (C := RX6) (T := TX6) (N := 14) hx hb hts hi6 hown hK hP 0 rfl rfl 12 (by decide) lk107 (fun _ h9 => h9) rfl dX6_isHouse_55 ?_
            refine lv_iconst (v := (1 : Int32)) hx hb dX6_isHouse_58 (by decide) ?_
            refine lv_iadd hx hb dX6_isHouse_59 ?_
            rw [show (nI k) + (1 : Int32) = nI (k + 1) from (nn_add rfl rfl)]
            refine va_put (ci := 6) (v := .int (nI (k + 1))) (ty := .int) (C := RX6) (T := TX6) (N := 14) hx hb hts hi6 tyX6 tyX6_ok nmX6 hown hK hP hD hS 0 rfl rfl 12 (by decide) lk107 (fun _ h9 => h9) rfl (by decide +kernel) rfl rfl (Nat.le_of_ble_eq_true rfl) dX6_isHouse_60 (fun H locs hP hD hS => ?_)
            have hP : va_P K.1 vwCl (mw K h a (hput (hput (hrow M 11 D45.1) 12 (nI (k + 1))) 13 (nI D45.2))) H := hP
            have hD : va_D A (mw K h a (hput (hput (hrow M 11 D45.1) 12 (nI (k + 1))) 13 (nI D45.2))) := hD
            refine lv_goto (tgt := 33) hx hb dX6_isHouse_63 (by decide) ?_
            have eR1 : (nI D45.2) = nI (posC ch (k + 1)) := by first | rfl | exact congrArg nI hog.1
            rw [eR1] at hP hD
            have hP : va_P K.1 vwCl (mw K h a (hput (hput (hrow M 11 D45.1) 12 (nI (k + 1))) 13 (nI (posC ch (k + 1))))) H := hP
            have hD : va_D A (mw K h a (hput (hput (hrow M 11 D45.1) 12 (nI (k + 1))) 13 (nI (posC ch (k + 1))))) := hD
            exact ih33 (k + 1) (n - 1) D45.1 _ _ _ (by rw [posC]; omega) (by omega) (by rw [posC]; omega) (by rw [posC]; omega) (by rw [posC]; omega) (by rw [hF, fe_ok (by omega) c_41 hn hoc, posC]) (by intro j hj; rcases Nat.lt_succ_iff_lt_or_eq.mp hj with z | z; exact hjk j z; rw [z]; exact c_41) (by exact tells_s htd hog.2) hP hD hS (lv_cons (lv_at hl 0 rfl) (lv_nil hl))
          · skip
            have hoc : ¬ okC ch L (posC ch k) := bI_eq1 hq45.1 c_48
            refine lv_iconst (v := (0 : Int32)) hx hb dX6_isHouse_51 (by decide) ?_
            exact hend _ _ _ _ _ _ _ (by decide) (D45.1, k, D45.2) hP hD hS (Nat.le_of_ble_eq_true rfl) (Nat.le_of_ble_eq_true rfl) (by exact hs_bad (by omega) hF c_41 hn hk hoc hq45.2.1 (hq45.2.2.2 hoc) rfl) dX6_isHouse_52
    have eR2 : (0 : Int32) = nI 0 := by rfl
    rw [eR2] at hP hD
    have eR3 : (nI (0 + 1)) = nI (posC ch 0) := by rfl
    rw [eR3] at hP hD
    have hP : va_P K.1 vwCl (mw K h a (hput (hput (hrow M 11 (M 11)) 12 (nI 0)) 13 (nI (posC ch 0)))) H := hP
    have hD : va_D A (mw K h a (hput (hput (hrow M 11 (M 11)) 12 (nI 0)) 13 (nI (posC ch 0)))) := hD
    exact lp33 _ 0 120 (M 11) _ _ _ (Nat.lt_succ_self _) (by exact Nat.zero_le _) (by show 1 ≤ 120; decide) (by show 1 ≤ L; omega) (by show L ≤ 1 + 120; omega) (by exact hs_1 c_18) (by intro j hj; exact absurd hj (Nat.not_lt_zero _)) (by intro j hj; exact absurd hj (Nat.not_lt_zero _)) hP hD hS (lv_cons (lv_at hl 0 rfl) (lv_nil hl))
  · skip
    refine lv_iconst (v := (0 : Int32)) hx hb dX6_isHouse_21 (by decide) ?_
    have eR4 : (0 : Int32) = nI 0 := by rfl
    have hP : va_P K.1 vwCl (mw K h a (hput (hput M 12 (nI 0)) 13 (0 : Int32))) H := by rw [← eR4]; exact hP
    have hD : va_D A (mw K h a (hput (hput M 12 (nI 0)) 13 (0 : Int32))) := by rw [← eR4]; exact hD
    have eR5 : (0 : Int32) = nI 0 := by rfl
    rw [eR5] at hP hD
    exact hend _ _ _ _ _ _ _ (by decide) (M 11, 0, 0) hP hD hS (Nat.le_of_ble_eq_true rfl) (Nat.le_of_ble_eq_true rfl) (by exact hs_0 c_18) dX6_isHouse_22

/-- the model after a command -/
def mnT (X : (Nat → Int32) × Nat × Nat) (c a b d : Nat) : (Nat → Int32) × Nat × Nat :=
  if c = 97 then (if a < X.2.2 then upd X.1 (50 + a) (X.1 0 + nI b) else X.1, X.2.1, X.2.2) else
  if c = 100 then (mDk X.1 a X.2.2, X.2.1, X.2.2) else
  if c = 102 then (if a < X.2.1 ∧ b < X.2.2 then upd X.1 (18 + a) (nI b) else X.1, X.2.1, X.2.2) else
  if c = 112 then (if X.2.2 < 10 then upd X.1 4 (X.1 4 + 1) else upd X.1 4 (X.1 4 + 0), X.2.1, if X.2.2 < 10 then X.2.2 + 1 else X.2.2) else
  if c = 114 then (if X.2.1 < 6 then upd (upd X.1 (12 + X.2.1) (nI a)) 3 (X.1 3 + 1) else X.1, if X.2.1 < 6 then X.2.1 + 1 else X.2.1, X.2.2) else
  if c = 121 then (if a < X.2.2 ∧ b < X.2.1 then upd X.1 (70 + 6 * a + b) (nI d) else X.1, X.2.1, X.2.2) else
  (if 0 < X.2.1 then mPlay X.1 X.2.1 X.2.2 else X.1, X.2.1, X.2.2)
def mnB (X : (Nat → Int32) × Nat × Nat) (c a b : Nat) : Bool :=
  if c = 97 then decide (a < X.2.2) else
  if c = 100 then true else
  if c = 102 then decide (a < X.2.1 ∧ b < X.2.2) else
  if c = 112 then decide (X.2.2 < 10) else
  if c = 114 then decide (X.2.1 < 6) else
  if c = 121 then decide (a < X.2.2 ∧ b < X.2.1) else decide (0 < X.2.1)

theorem ro_n {y : Int32} {R r : Nat} (hy : y = nI R) (hR : R < 2 ^ 30) (hr : r < 2 ^ 31) : (0 ≤ nI r ∧ nI r ≤ y - 1) ↔ r < R := (and_congr_right fun _ => nn_pred hy hR).trans ⟨fun z => (nn_lt rfl hy hr (by omega)).mp z.2, fun z => ⟨Int32.not_lt.mp (nI_pos hr), (nn_lt rfl hy hr (by omega)).mpr z⟩⟩

abbrev rm_X6_isRole_n : Room := { frames := 1, cells := 0, slots := 0, locals := 22 }
set_option maxHeartbeats 4000000 in
set_option maxRecDepth 100000 in
theorem c_X6_isRole_n (l : Launch) (K : KX) (q : Nat) (N : Nat → Int32) (r : Nat) (hr : r < 2147483648) (R : Nat) (hR0 : N 3 = nI R) (hR0b : R ≤ 6) : Met l yX6_isRole wsX6_isRole rm_X6_isRole_n (va_Pc [.ref q, .int (nI r)] (xRead K ([(q, aI K 190 N)]))) (vp_Si (fun r9 => r9 = bI (r < R))) 0 0 (fun _ => False) := by
  refine xr_startz (cc := cX6_isRole) (maxL := 2) (ret := .boolean) (by decide) rfl (Nat.le_of_ble_eq_true rfl) ?_
  intro p9 e9 s9 m9 below9 meth9 c9 H ls av9 Q9 hx hb hlocks hml hts hown hK hP hend hl
  have hown : s9.vm.findClass RX6 = some m9.cls := hown
  have hl : lv_has ls 2 [(0, .ref q), (1, .int (nI r))] := hl
  refine lv_iload_n hx hb dX6_isRole_0 rfl (lv_at hl 1 rfl) ?_
  refine lv_iconst (v := (0 : Int32)) hx hb dX6_isRole_1 (by decide) ?_
  refine lv_aload_n hx hb dX6_isRole_2 rfl (lv_at hl 0 rfl) ?_
  refine lv_iconst (v := (3 : Int32)) hx hb dX6_isRole_3 (by decide) ?_
  refine xi_ld hx hb hK hP 0 (f := N) rfl 3 rfl (by omega) (by decide) dX6_isRole_4 ?_
  refine lv_iconst (v := (1 : Int32)) hx hb dX6_isRole_5 (by decide) ?_
  refine lv_isub hx hb dX6_isRole_6 ?_
  have hPc := P_sub (ws' := []) hP [] rfl
  refine xr_S (As := [.int (nI r), .int (0 : Int32), .int ((N 3) - (1 : Int32))]) (rest := []) ⟨hx, hb, hml, hown, hts⟩ (c_X6_in l K (nI r) (0 : Int32) ((N 3) - (1 : Int32))) (va_cwS 3 hts gX6_isRole_X6_in rfl rfl rfl (by decide +kernel) ⟨Nat.le_of_ble_eq_true rfl, Nat.le_of_ble_eq_true rfl⟩) hK hPc rfl hl.1 rfl (Nat.le_of_ble_eq_true rfl) (Nat.le_of_ble_eq_true rfl) (Nat.le_of_ble_eq_true rfl) dX6_isRole_7 ?_
  exact hend _ _ _ (bI_narrow) (by exact bI_cong (ro_n hR0 (by omega) hr)) dX6_isRole_10

abbrev rm_X6_isPlayer_n : Room := { frames := 1, cells := 0, slots := 0, locals := 22 }
set_option maxHeartbeats 4000000 in
set_option maxRecDepth 100000 in
theorem c_X6_isPlayer_n (l : Launch) (K : KX) (q : Nat) (N : Nat → Int32) (p : Nat) (hp : p < 2147483648) (P : Nat) (hP0 : N 4 = nI P) (hP0b : P ≤ 10) : Met l yX6_isPlayer wsX6_isPlayer rm_X6_isPlayer_n (va_Pc [.ref q, .int (nI p)] (xRead K ([(q, aI K 190 N)]))) (vp_Si (fun r9 => r9 = bI (p < P))) 0 0 (fun _ => False) := by
  refine xr_startz (cc := cX6_isPlayer) (maxL := 2) (ret := .boolean) (by decide) rfl (Nat.le_of_ble_eq_true rfl) ?_
  intro p9 e9 s9 m9 below9 meth9 c9 H ls av9 Q9 hx hb hlocks hml hts hown hK hP hend hl
  have hown : s9.vm.findClass RX6 = some m9.cls := hown
  have hl : lv_has ls 2 [(0, .ref q), (1, .int (nI p))] := hl
  refine lv_iload_n hx hb dX6_isPlayer_0 rfl (lv_at hl 1 rfl) ?_
  refine lv_iconst (v := (0 : Int32)) hx hb dX6_isPlayer_1 (by decide) ?_
  refine lv_aload_n hx hb dX6_isPlayer_2 rfl (lv_at hl 0 rfl) ?_
  refine lv_iconst (v := (4 : Int32)) hx hb dX6_isPlayer_3 (by decide) ?_
  refine xi_ld hx hb hK hP 0 (f := N) rfl 4 rfl (by omega) (by decide) dX6_isPlayer_4 ?_
  refine lv_iconst (v := (1 : Int32)) hx hb dX6_isPlayer_5 (by decide) ?_
  refine lv_isub hx hb dX6_isPlayer_6 ?_
  have hPc := P_sub (ws' := []) hP [] rfl
  refine xr_S (As := [.int (nI p), .int (0 : Int32), .int ((N 4) - (1 : Int32))]) (rest := []) ⟨hx, hb, hml, hown, hts⟩ (c_X6_in l K (nI p) (0 : Int32) ((N 4) - (1 : Int32))) (va_cwS 3 hts gX6_isPlayer_X6_in rfl rfl rfl (by decide +kernel) ⟨Nat.le_of_ble_eq_true rfl, Nat.le_of_ble_eq_true rfl⟩) hK hPc rfl hl.1 rfl (Nat.le_of_ble_eq_true rfl) (Nat.le_of_ble_eq_true rfl) (Nat.le_of_ble_eq_true rfl) dX6_isPlayer_7 ?_
  exact hend _ _ _ (bI_narrow) (by exact bI_cong (ro_n hP0 (by omega) hp)) dX6_isPlayer_10

abbrev rm_X6_comes : Room := { frames := 0, cells := 0, slots := 0, locals := 0 }
set_option maxHeartbeats 4000000 in
set_option maxRecDepth 100000 in
theorem c_X6_comes (l : Launch) (K : KX) (h : Nat) (a : Nat → Nat) (M : HV) (w : Int32) (R : Nat) (hR0 : M 0 3 = nI R) (hR0b : R ≤ 5) (sz : Nat) : Met l yX6_comes wsX6_comes rm_X6_comes (va_Pc [.ref h, .int w] (xPre K (mw K h a M) sz)) (va_Qv (fun _u : Unit => True) (fun _u t => xPost K (va_A (mw K h a M) sz) (mw K h a (hrow M 0 (upd (upd (M 0) (12 + R) w) 3 (M 0 3 + 1)))) t) (va_A (mw K h a M) sz)) 0 0 (va_A (mw K h a M) sz) := by
  refine xw_startv (cc := cX6_comes) (maxL := 2) (by decide) rfl (Nat.le_of_ble_eq_true rfl) ?_
  intro p9 e9 s9 m9 below9 meth9 c9 H locs ls A av9 Q9 hx hb hlocks hml hname hts hown hK hP hD hS hA hsz hend hl
  have hown : s9.vm.findClass RX6 = some m9.cls := hown
  have hl : lv_has ls 2 [(0, .ref h), (1, .int w)] := hl
  have hi6 : ∀ w ∈ u_ws RX6 TX6 14, w ∈ wsX6_comes := by decide +kernel
  have lk7 := hts (.fieldLink RX6 7 "StandInsModel" "now" "[I") (by decide +kernel)
  refine lv_aload_n hx hb dX6_comes_0 rfl (lv_at hl 0 rfl) ?_
  refine va_get (ci := 6) (v := .ref (a 0)) (C := RX6) (T := TX6) (N := 14) hx hb hts hi6 hown hK hP 0 rfl rfl 0 (by decide) lk7 (fun _ h9 => h9) rfl dX6_comes_1 ?_
  refine lv_bipush (v := (12 : Int32)) hx hb dX6_comes_4 (by decide) ?_
  refine lv_aload_n hx hb dX6_comes_6 rfl (lv_at hl 0 rfl) ?_
  refine va_get (ci := 6) (v := .ref (a 0)) (C := RX6) (T := TX6) (N := 14) hx hb hts hi6 hown hK hP 0 rfl rfl 0 (by decide) lk7 (fun _ h9 => h9) rfl dX6_comes_7 ?_
  refine lv_iconst (v := (3 : Int32)) hx hb dX6_comes_10 (by decide) ?_
  refine xi_ld hx hb hK hP 1 (f := M 0) rfl 3 rfl (by omega) (by decide) dX6_comes_11 ?_
  refine lv_iadd hx hb dX6_comes_12 ?_
  refine lv_iload_n hx hb dX6_comes_13 rfl (lv_at hl 1 rfl) ?_
  refine xi_st hx hb hK hP hD hS 1 (f := M 0) rfl (12 + R) (nn_add rfl hR0) (by omega) (by decide) (mw K h a (hrow M 0 (upd (M 0) (12 + R) w))) rfl dX6_comes_14 (fun H locs hP hD hS => ?_)
  refine lv_aload_n hx hb dX6_comes_15 rfl (lv_at hl 0 rfl) ?_
  refine va_get (ci := 6) (v := .ref (a 0)) (C := RX6) (T := TX6) (N := 14) hx hb hts hi6 hown hK hP 0 rfl rfl 0 (by decide) lk7 (fun _ h9 => h9) rfl dX6_comes_16 ?_
  refine lv_iconst (v := (3 : Int32)) hx hb dX6_comes_19 (by decide) ?_
  refine lv_dup2_11 hx hb dX6_comes_20 rfl rfl ?_
  refine xi_ld hx hb hK hP 1 (f := (upd (M 0) (12 + R) w)) rfl 3 rfl (by omega) (by decide) dX6_comes_21 ?_
  refine lv_iconst (v := (1 : Int32)) hx hb dX6_comes_22 (by decide) ?_
  refine lv_iadd hx hb dX6_comes_23 ?_
  refine xi_st hx hb hK hP hD hS 1 (f := (upd (M 0) (12 + R) w)) rfl 3 rfl (by omega) (by decide) (mw K h a (hrow M 0 (upd (upd (M 0) (12 + R) w) 3 (((upd (M 0) (12 + R) w) 3) + (1 : Int32))))) rfl dX6_comes_24 (fun H locs hP hD hS => ?_)
  have eR1 : (upd (upd (M 0) (12 + R) w) 3 (((upd (M 0) (12 + R) w) 3) + (1 : Int32))) = upd (upd (M 0) (12 + R) w) 3 (M 0 3 + 1) := by rw [pk_un (show (3 : Nat) ≠ 12 + R by omega)]
  rw [eR1] at hP hD
  exact hend _ _ _ _ _ _ () hP hD hS (Nat.le_of_ble_eq_true rfl) (Nat.le_of_ble_eq_true rfl) trivial dX6_comes_25

abbrev rm_X6_isDone : Room := { frames := 5, cells := 0, slots := 0, locals := 123 }
set_option maxHeartbeats 4000000 in
set_option maxRecDepth 100000 in
theorem c_X6_isDone (l : Launch) (K : KX) (h : Nat) (a : Nat → Nat) (M : HV) (k : Nat) (hk : k < 120) (L : Nat) (ch : Nat → Nat) (p : Nat) (h0 : M 11 (4 * k) = nI (ch p)) (htd : ∀ i, 1 ≤ i → i ≤ dgB (ch p) → M 11 (4 * k + i) = nI (ch (p + i) - 48)) (hoc : okC ch L p) (hcp : ch p < 256) (R : Nat) (hR0 : M 0 3 = nI R) (hR0b : R ≤ 6) (P : Nat) (hP0 : M 0 4 = nI P) (hP0b : P ≤ 10) (hok : mOK (M 0) R P) (sz : Nat) : Met l yX6_isDone wsX6_isDone rm_X6_isDone (va_Pc [.ref h, .int (nI k)] (xPre K (mw K h a M) sz)) (va_Qi (fun (r9 : Int32) (u9 : (Nat → Int32) × (Nat → Int32)) => r9 = bI (mnB (M 0, R, P) (ch p) (ch (p + 1) - 48) (ch (p + 2) - 48) = true)) (fun u9 t => xPost K (va_A (mw K h a M) sz) (mw K h a (hrow (hrow (hrow M 0 (mnT (M 0, R, P) (ch p) (ch (p + 1) - 48) (ch (p + 2) - 48) (ch (p + 3) - 48)).1) 9 u9.1) 10 u9.2)) t) (va_A (mw K h a M) sz)) 0 0 (va_A (mw K h a M) sz) := by
  refine xw_startz (cc := cX6_isDone) (maxL := 6) (ret := .boolean) (by decide) rfl (Nat.le_of_ble_eq_true rfl) ?_
  intro p9 e9 s9 m9 below9 meth9 c9 H locs ls A av9 Q9 hx hb hlocks hml hname hts hown hK hP hD hS hA hsz hend hl
  have hown : s9.vm.findClass RX6 = some m9.cls := hown
  have hl : lv_has ls 6 [(0, .ref h), (1, .int (nI k))] := hl
  have hi6 : ∀ w ∈ u_ws RX6 TX6 14, w ∈ wsX6_isDone := by decide +kernel
  have lk35 := hts (.fieldLink RX6 35 "StandInsModel" "told" "[I") (by decide +kernel)
  have lk7 := hts (.fieldLink RX6 7 "StandInsModel" "now" "[I") (by decide +kernel)
  have hCp := isC_to hoc.1
  refine lv_aload_n hx hb dX6_isDone_0 rfl (lv_at hl 0 rfl) ?_
  refine va_get (ci := 6) (v := .ref (a 11)) (C := RX6) (T := TX6) (N := 14) hx hb hts hi6 hown hK hP 0 rfl rfl 11 (by decide) lk35 (fun _ h9 => h9) rfl dX6_isDone_1 ?_
  refine lv_iconst (v := (4 : Int32)) hx hb dX6_isDone_4 (by decide) ?_
  refine lv_iload_n hx hb dX6_isDone_5 rfl (lv_at hl 1 rfl) ?_
  refine lv_imul hx hb dX6_isDone_6 ?_
  refine xi_ld hx hb hK hP 9 (f := M 11) rfl (4 * k) (nn_mul rfl rfl) (by omega) (by decide) dX6_isDone_7 ?_
  rw [show M 11 (4 * k) = nI (ch p) from h0]
  refine lv_istore_n (lv' := [(2, .int (nI (ch p))), (0, .ref h), (1, .int (nI k))]) hx hb dX6_isDone_8 rfl hl (by decide) rfl (fun ls hl => ?_)
  refine lv_aload_n hx hb dX6_isDone_9 rfl (lv_at hl 1 rfl) ?_
  refine va_get (ci := 6) (v := .ref (a 11)) (C := RX6) (T := TX6) (N := 14) hx hb hts hi6 hown hK hP 0 rfl rfl 11 (by decide) lk35 (fun _ h9 => h9) rfl dX6_isDone_10 ?_
  refine lv_iconst (v := (4 : Int32)) hx hb dX6_isDone_13 (by decide) ?_
  refine lv_iload_n hx hb dX6_isDone_14 rfl (lv_at hl 2 rfl) ?_
  refine lv_imul hx hb dX6_isDone_15 ?_
  refine lv_iconst (v := (1 : Int32)) hx hb dX6_isDone_16 (by decide) ?_
  refine lv_iadd hx hb dX6_isDone_17 ?_
  refine xi_ld hx hb hK hP 9 (f := M 11) rfl ((4 * k) + 1) (nn_add (nn_mul rfl rfl) rfl) (by omega) (by decide) dX6_isDone_18 ?_
  refine lv_istore_n (lv' := [(3, .int (M 11 ((4 * k) + 1))), (2, .int (nI (ch p))), (0, .ref h), (1, .int (nI k))]) hx hb dX6_isDone_19 rfl hl (by decide) rfl (fun ls hl => ?_)
  refine lv_aload_n hx hb dX6_isDone_20 rfl (lv_at hl 2 rfl) ?_
  refine va_get (ci := 6) (v := .ref (a 11)) (C := RX6) (T := TX6) (N := 14) hx hb hts hi6 hown hK hP 0 rfl rfl 11 (by decide) lk35 (fun _ h9 => h9) rfl dX6_isDone_21 ?_
  refine lv_iconst (v := (4 : Int32)) hx hb dX6_isDone_24 (by decide) ?_
  refine lv_iload_n hx hb dX6_isDone_25 rfl (lv_at hl 3 rfl) ?_
  refine lv_imul hx hb dX6_isDone_26 ?_
  refine lv_iconst (v := (2 : Int32)) hx hb dX6_isDone_27 (by decide) ?_
  refine lv_iadd hx hb dX6_isDone_28 ?_
  refine xi_ld hx hb hK hP 9 (f := M 11) rfl ((4 * k) + 2) (nn_add (nn_mul rfl rfl) rfl) (by omega) (by decide) dX6_isDone_29 ?_
  refine lv_istore (lv' := [(4, .int (M 11 ((4 * k) + 2))), (3, .int (M 11 ((4 * k) + 1))), (2, .int (nI (ch p))), (0, .ref h), (1, .int (nI k))]) hx hb dX6_isDone_30 hl (by decide) rfl (fun ls hl => ?_)
  refine lv_iload_n hx hb dX6_isDone_32 rfl (lv_at hl 2 rfl) ?_
  refine lv_bipush (v := (114 : Int32)) hx hb dX6_isDone_33 (by decide) ?_
  refine xn_icmp_ne (tgt := 69) hx hb (ch p) 114 rfl rfl (by omega) (by decide) dX6_isDone_35 (by decide) (fun c_35 => ?_) (fun c_35 => ?_)
  · skip
    refine lv_iload_n hx hb dX6_isDone_69 rfl (lv_at hl 2 rfl) ?_
    refine lv_bipush (v := (112 : Int32)) hx hb dX6_isDone_70 (by decide) ?_
    refine xn_icmp_ne (tgt := 115) hx hb (ch p) 112 rfl rfl (by omega) (by decide) dX6_isDone_72 (by decide) (fun c_72 => ?_) (fun c_72 => ?_)
    · skip
      refine lv_iload_n hx hb dX6_isDone_115 rfl (lv_at hl 2 rfl) ?_
      refine lv_bipush (v := (100 : Int32)) hx hb dX6_isDone_116 (by decide) ?_
      refine xn_icmp_ne (tgt := 131) hx hb (ch p) 100 rfl rfl (by omega) (by decide) dX6_isDone_118 (by decide) (fun c_118 => ?_) (fun c_118 => ?_)
      · skip
        refine lv_iload_n hx hb dX6_isDone_131 rfl (lv_at hl 2 rfl) ?_
        refine lv_bipush (v := (103 : Int32)) hx hb dX6_isDone_132 (by decide) ?_
        refine xn_icmp_ne (tgt := 170) hx hb (ch p) 103 rfl rfl (by omega) (by decide) dX6_isDone_134 (by decide) (fun c_134 => ?_) (fun c_134 => ?_)
        · skip
          refine lv_iload_n hx hb dX6_isDone_170 rfl (lv_at hl 2 rfl) ?_
          refine lv_bipush (v := (102 : Int32)) hx hb dX6_isDone_171 (by decide) ?_
          refine xn_icmp_ne (tgt := 207) hx hb (ch p) 102 rfl rfl (by omega) (by decide) dX6_isDone_173 (by decide) (fun c_173 => ?_) (fun c_173 => ?_)
          · skip
            have hd2x : 2 ≤ dgB (ch p) := by rcases (show ch p = 121 ∨ ch p = 97 by omega) with z | z <;> rw [z] <;> decide
            have hd1 := htd 1 (by decide) (by omega)
            have hj1 := hoc.2 1 (by decide) (by omega)
            have hg1 := gdD_le (ch p) 1
            have hd2 := htd 2 (by decide) (by omega)
            have hj2 := hoc.2 2 (by decide) (by omega)
            have hg2 := gdD_le (ch p) 2
            refine lv_aload_n hx hb dX6_isDone_207 rfl (lv_at hl 3 rfl) ?_
            refine va_get (ci := 6) (v := .ref (a 0)) (C := RX6) (T := TX6) (N := 14) hx hb hts hi6 hown hK hP 0 rfl rfl 0 (by decide) lk7 (fun _ h9 => h9) rfl dX6_isDone_208 ?_
            refine lv_iload_n hx hb dX6_isDone_211 rfl (lv_at hl 1 rfl) ?_
            rw [show M 11 ((4 * k) + 1) = nI (ch (p + 1) - 48) from hd1]
            have hPc := P_sub (ws' := [((a 0), aI K 190 (M 0))]) hP [1] rfl
            refine xr_S (As := [.ref (a 0), .int (nI (ch (p + 1) - 48))]) (rest := []) ⟨hx, hb, hml, hown, hts⟩ (c_X6_isPlayer_n l K (a 0) (M 0) (ch (p + 1) - 48) (by omega) P hP0 (by omega)) (va_cwS 2 hts gX6_isDone_X6_isPlayer rfl rfl rfl (by decide +kernel) ⟨Nat.le_of_ble_eq_true rfl, Nat.le_of_ble_eq_true rfl⟩) hK hPc rfl hl.1 rfl (Nat.le_of_ble_eq_true rfl) (Nat.le_of_ble_eq_true rfl) (Nat.le_of_ble_eq_true rfl) dX6_isDone_212 ?_
            refine xb_if_eq (tgt := 240) hx hb dX6_isDone_215 (by decide) (fun c_215 => ?_) (fun c_215 => ?_)
            · skip
              refine lv_iconst (v := (0 : Int32)) hx hb dX6_isDone_240 (by decide) ?_
              refine lv_istore (lv' := [(5, .int (0 : Int32)), (4, .int (M 11 ((4 * k) + 2))), (3, .int (M 11 ((4 * k) + 1))), (2, .int (nI (ch p))), (0, .ref h), (1, .int (nI k))]) hx hb dX6_isDone_241 hl (by decide) rfl (fun ls hl => ?_)
              refine lv_iload hx hb dX6_isDone_243 (lv_at hl 0 rfl) ?_
              refine lv_if_eq (tgt := 279) hx hb dX6_isDone_245 (by decide) (fun c_245 => ?_) (fun c_245 => ?_)
              rotate_left
              · exact absurd (by decide) c_245
              refine lv_iload hx hb dX6_isDone_279 (lv_at hl 0 rfl) ?_
              refine lv_if_eq (tgt := 301) hx hb dX6_isDone_281 (by decide) (fun c_281 => ?_) (fun c_281 => ?_)
              rotate_left
              · exact absurd (by decide) c_281
              refine lv_iload hx hb dX6_isDone_301 (lv_at hl 0 rfl) ?_
              refine lv_if_eq (tgt := 330) hx hb dX6_isDone_303 (by decide) (fun c_303 => ?_) (fun c_303 => ?_)
              rotate_left
              · exact absurd (by decide) c_303
              refine lv_iload hx hb dX6_isDone_330 (lv_at hl 0 rfl) ?_
              have hP : va_P K.1 vwCl (mw K h a (hrow M 0 (M 0))) H := hP
              have hD : va_D A (mw K h a (hrow M 0 (M 0))) := hD
              have eR1 : (M 0) = (mnT (M 0, R, P) (ch p) (ch (p + 1) - 48) (ch (p + 2) - 48) (ch (p + 3) - 48)).1 := by first | (simp [mnT, c_35, c_72, c_118, c_134, c_173, c_215]; done) | (simp [mnT, c_35, c_72, c_118, c_134, c_173, c_215]; intro z; omega) | (simp [mnT, c_35, c_72, c_118, c_134, c_173, c_215, hd1]; done) | (simp [mnT, c_35, c_72, c_118, c_134, c_173, c_215, hd1, hd2]; done) | (simp [mnT, c_35, c_72, c_118, c_134, c_173, c_215, hc121, hd1, hd2, hd3]; done) | (rcases (show ch p = 121 ∨ ch p = 97 by omega) with z | z <;> simp [mnT, c_35, c_72, c_118, c_134, c_173, c_215, z]; done)
              have hP : va_P K.1 vwCl (mw K h a (hrow M 0 (mnT (M 0, R, P) (ch p) (ch (p + 1) - 48) (ch (p + 2) - 48) (ch (p + 3) - 48)).1)) H := by rw [← eR1]; exact hP
              have hD : va_D A (mw K h a (hrow M 0 (mnT (M 0, R, P) (ch p) (ch (p + 1) - 48) (ch (p + 2) - 48) (ch (p + 3) - 48)).1)) := by rw [← eR1]; exact hD
              exact hend _ _ _ _ _ _ _ (by decide) (M 9, M 10) hP hD hS (Nat.le_of_ble_eq_true rfl) (Nat.le_of_ble_eq_true rfl) (by first | (simp [mnB, bI, c_35, c_72, c_118, c_134, c_173, c_215]; done) | (simp [mnB, bI, c_35, c_72, c_118, c_134, c_173, c_215]; omega) | (simp [mnB, bI, c_35, c_72, c_118, c_134, c_173, c_215, hc121]; done) | (rcases (show ch p = 121 ∨ ch p = 97 by omega) with z | z <;> simp [mnB, bI, c_35, c_72, c_118, c_134, c_173, c_215, z]; done)) dX6_isDone_332
            · skip
              refine lv_iload_n hx hb dX6_isDone_218 rfl (lv_at hl 2 rfl) ?_
              refine lv_bipush (v := (97 : Int32)) hx hb dX6_isDone_219 (by decide) ?_
              refine xn_icmp_eq (tgt := 236) hx hb (ch p) 97 rfl rfl (by omega) (by decide) dX6_isDone_221 (by decide) (fun c_221 => ?_) (fun c_221 => ?_)
              · skip
                refine lv_iconst (v := (1 : Int32)) hx hb dX6_isDone_236 (by decide) ?_
                refine lv_goto (tgt := 241) hx hb dX6_isDone_237 (by decide) ?_
                refine lv_istore (lv' := [(5, .int (1 : Int32)), (4, .int (M 11 ((4 * k) + 2))), (3, .int (M 11 ((4 * k) + 1))), (2, .int (nI (ch p))), (0, .ref h), (1, .int (nI k))]) hx hb dX6_isDone_241 hl (by decide) rfl (fun ls hl => ?_)
                refine lv_iload hx hb dX6_isDone_243 (lv_at hl 0 rfl) ?_
                refine lv_if_eq (tgt := 279) hx hb dX6_isDone_245 (by decide) (fun c_245 => ?_) (fun c_245 => ?_)
                · exact absurd c_245 (by decide)
                refine lv_iload_n hx hb dX6_isDone_248 rfl (lv_at hl 3 rfl) ?_
                refine lv_bipush (v := (121 : Int32)) hx hb dX6_isDone_249 (by decide) ?_
                refine xn_icmp_ne (tgt := 279) hx hb (ch p) 121 rfl rfl (by omega) (by decide) dX6_isDone_251 (by decide) (fun c_251 => ?_) (fun c_251 => ?_)
                · skip
                  refine lv_iload hx hb dX6_isDone_279 (lv_at hl 0 rfl) ?_
                  refine lv_if_eq (tgt := 301) hx hb dX6_isDone_281 (by decide) (fun c_281 => ?_) (fun c_281 => ?_)
                  · exact absurd c_281 (by decide)
                  refine lv_iload_n hx hb dX6_isDone_284 rfl (lv_at hl 3 rfl) ?_
                  refine lv_bipush (v := (102 : Int32)) hx hb dX6_isDone_285 (by decide) ?_
                  refine xn_icmp_ne (tgt := 301) hx hb (ch p) 102 rfl rfl (by omega) (by decide) dX6_isDone_287 (by decide) (fun c_287 => ?_) (fun c_287 => ?_)
                  · skip
                    refine lv_iload hx hb dX6_isDone_301 (lv_at hl 0 rfl) ?_
                    refine lv_if_eq (tgt := 330) hx hb dX6_isDone_303 (by decide) (fun c_303 => ?_) (fun c_303 => ?_)
                    · exact absurd c_303 (by decide)
                    refine lv_iload_n hx hb dX6_isDone_306 rfl (lv_at hl 3 rfl) ?_
                    refine lv_bipush (v := (97 : Int32)) hx hb dX6_isDone_307 (by decide) ?_
                    refine xn_icmp_ne (tgt := 330) hx hb (ch p) 97 rfl rfl (by omega) (by decide) dX6_isDone_309 (by decide) (fun c_309 => ?_) (fun c_309 => ?_)
                    · omega
                    · skip
                      refine lv_aload_n hx hb dX6_isDone_312 rfl (lv_at hl 4 rfl) ?_
                      refine va_get (ci := 6) (v := .ref (a 0)) (C := RX6) (T := TX6) (N := 14) hx hb hts hi6 hown hK hP 0 rfl rfl 0 (by decide) lk7 (fun _ h9 => h9) rfl dX6_isDone_313 ?_
                      refine lv_bipush (v := (50 : Int32)) hx hb dX6_isDone_316 (by decide) ?_
                      refine lv_iload_n hx hb dX6_isDone_318 rfl (lv_at hl 2 rfl) ?_
                      refine lv_iadd hx hb dX6_isDone_319 ?_
                      refine lv_aload_n hx hb dX6_isDone_320 rfl (lv_at hl 4 rfl) ?_
                      refine va_get (ci := 6) (v := .ref (a 0)) (C := RX6) (T := TX6) (N := 14) hx hb hts hi6 hown hK hP 0 rfl rfl 0 (by decide) lk7 (fun _ h9 => h9) rfl dX6_isDone_321 ?_
                      refine lv_iconst (v := (0 : Int32)) hx hb dX6_isDone_324 (by decide) ?_
                      refine xi_ld hx hb hK hP 1 (f := M 0) rfl 0 rfl (by omega) (by decide) dX6_isDone_325 ?_
                      refine lv_iload hx hb dX6_isDone_326 (lv_at hl 1 rfl) ?_
                      refine lv_iadd hx hb dX6_isDone_328 ?_
                      refine xi_st hx hb hK hP hD hS 1 (f := M 0) rfl (50 + (ch (p + 1) - 48)) (nn_add rfl hd1) (by omega) (by decide) (mw K h a (hrow M 0 (upd (M 0) (50 + (ch (p + 1) - 48)) ((M 0 0) + (M 11 ((4 * k) + 2)))))) rfl dX6_isDone_329 (fun H locs hP hD hS => ?_)
                      refine lv_iload hx hb dX6_isDone_330 (lv_at hl 0 rfl) ?_
                      have eR2 : (upd (M 0) (50 + (ch (p + 1) - 48)) ((M 0 0) + (M 11 ((4 * k) + 2)))) = (mnT (M 0, R, P) (ch p) (ch (p + 1) - 48) (ch (p + 2) - 48) (ch (p + 3) - 48)).1 := by first | (simp [mnT, c_35, c_72, c_118, c_134, c_173, c_215, c_221, c_251, c_287, c_309]; done) | (simp [mnT, c_35, c_72, c_118, c_134, c_173, c_215, c_221, c_251, c_287, c_309]; intro z; omega) | (simp [mnT, c_35, c_72, c_118, c_134, c_173, c_215, c_221, c_251, c_287, c_309, hd1]; done) | (simp [mnT, c_35, c_72, c_118, c_134, c_173, c_215, c_221, c_251, c_287, c_309, hd1, hd2]; done) | (simp [mnT, c_35, c_72, c_118, c_134, c_173, c_215, c_221, c_251, c_287, c_309, hc121, hd1, hd2, hd3]; done) | (rcases (show ch p = 121 ∨ ch p = 97 by omega) with z | z <;> simp [mnT, c_35, c_72, c_118, c_134, c_173, c_215, c_221, c_251, c_287, c_309, z]; done)
                      rw [eR2] at hP hD
                      exact hend _ _ _ _ _ _ _ (by decide) (M 9, M 10) hP hD hS (Nat.le_of_ble_eq_true rfl) (Nat.le_of_ble_eq_true rfl) (by first | (simp [mnB, bI, c_35, c_72, c_118, c_134, c_173, c_215, c_221, c_251, c_287, c_309]; done) | (simp [mnB, bI, c_35, c_72, c_118, c_134, c_173, c_215, c_221, c_251, c_287, c_309]; omega) | (simp [mnB, bI, c_35, c_72, c_118, c_134, c_173, c_215, c_221, c_251, c_287, c_309, hc121]; done) | (rcases (show ch p = 121 ∨ ch p = 97 by omega) with z | z <;> simp [mnB, bI, c_35, c_72, c_118, c_134, c_173, c_215, c_221, c_251, c_287, c_309, z]; done)) dX6_isDone_332
                  · omega
                · omega
              · skip
                have hc121 : ch p = 121 := by omega
                have hd3 := htd 3 (by decide) (by rw [hc121]; decide)
                refine lv_aload_n hx hb dX6_isDone_224 rfl (lv_at hl 3 rfl) ?_
                refine va_get (ci := 6) (v := .ref (a 0)) (C := RX6) (T := TX6) (N := 14) hx hb hts hi6 hown hK hP 0 rfl rfl 0 (by decide) lk7 (fun _ h9 => h9) rfl dX6_isDone_225 ?_
                refine lv_iload hx hb dX6_isDone_228 (lv_at hl 0 rfl) ?_
                rw [show M 11 ((4 * k) + 2) = nI (ch (p + 2) - 48) from hd2]
                have hPc := P_sub (ws' := [((a 0), aI K 190 (M 0))]) hP [1] rfl
                refine xr_S (As := [.ref (a 0), .int (nI (ch (p + 2) - 48))]) (rest := []) ⟨hx, hb, hml, hown, hts⟩ (c_X6_isRole_n l K (a 0) (M 0) (ch (p + 2) - 48) (by omega) R hR0 (by omega)) (va_cwS 2 hts gX6_isDone_X6_isRole rfl rfl rfl (by decide +kernel) ⟨Nat.le_of_ble_eq_true rfl, Nat.le_of_ble_eq_true rfl⟩) hK hPc rfl hl.1 rfl (Nat.le_of_ble_eq_true rfl) (Nat.le_of_ble_eq_true rfl) (Nat.le_of_ble_eq_true rfl) dX6_isDone_230 ?_
                refine xb_if_eq (tgt := 240) hx hb dX6_isDone_233 (by decide) (fun c_233 => ?_) (fun c_233 => ?_)
                · skip
                  refine lv_iconst (v := (0 : Int32)) hx hb dX6_isDone_240 (by decide) ?_
                  refine lv_istore (lv' := [(5, .int (0 : Int32)), (4, .int (M 11 ((4 * k) + 2))), (3, .int (M 11 ((4 * k) + 1))), (2, .int (nI (ch p))), (0, .ref h), (1, .int (nI k))]) hx hb dX6_isDone_241 hl (by decide) rfl (fun ls hl => ?_)
                  refine lv_iload hx hb dX6_isDone_243 (lv_at hl 0 rfl) ?_
                  refine lv_if_eq (tgt := 279) hx hb dX6_isDone_245 (by decide) (fun c_245 => ?_) (fun c_245 => ?_)
                  rotate_left
                  · exact absurd (by decide) c_245
                  refine lv_iload hx hb dX6_isDone_279 (lv_at hl 0 rfl) ?_
                  refine lv_if_eq (tgt := 301) hx hb dX6_isDone_281 (by decide) (fun c_281 => ?_) (fun c_281 => ?_)
                  rotate_left
                  · exact absurd (by decide) c_281
                  refine lv_iload hx hb dX6_isDone_301 (lv_at hl 0 rfl) ?_
                  refine lv_if_eq (tgt := 330) hx hb dX6_isDone_303 (by decide) (fun c_303 => ?_) (fun c_303 => ?_)
                  rotate_left
                  · exact absurd (by decide) c_303
                  refine lv_iload hx hb dX6_isDone_330 (lv_at hl 0 rfl) ?_
                  have hP : va_P K.1 vwCl (mw K h a (hrow M 0 (M 0))) H := hP
                  have hD : va_D A (mw K h a (hrow M 0 (M 0))) := hD
                  have eR3 : (M 0) = (mnT (M 0, R, P) (ch p) (ch (p + 1) - 48) (ch (p + 2) - 48) (ch (p + 3) - 48)).1 := by first | (simp [mnT, c_35, c_72, c_118, c_134, c_173, c_215, c_221, c_233]; done) | (simp [mnT, c_35, c_72, c_118, c_134, c_173, c_215, c_221, c_233]; intro z; omega) | (simp [mnT, c_35, c_72, c_118, c_134, c_173, c_215, c_221, c_233, hd1]; done) | (simp [mnT, c_35, c_72, c_118, c_134, c_173, c_215, c_221, c_233, hd1, hd2]; done) | (simp [mnT, c_35, c_72, c_118, c_134, c_173, c_215, c_221, c_233, hc121, hd1, hd2, hd3]; done) | (rcases (show ch p = 121 ∨ ch p = 97 by omega) with z | z <;> simp [mnT, c_35, c_72, c_118, c_134, c_173, c_215, c_221, c_233, z]; done)
                  have hP : va_P K.1 vwCl (mw K h a (hrow M 0 (mnT (M 0, R, P) (ch p) (ch (p + 1) - 48) (ch (p + 2) - 48) (ch (p + 3) - 48)).1)) H := by rw [← eR3]; exact hP
                  have hD : va_D A (mw K h a (hrow M 0 (mnT (M 0, R, P) (ch p) (ch (p + 1) - 48) (ch (p + 2) - 48) (ch (p + 3) - 48)).1)) := by rw [← eR3]; exact hD
                  exact hend _ _ _ _ _ _ _ (by decide) (M 9, M 10) hP hD hS (Nat.le_of_ble_eq_true rfl) (Nat.le_of_ble_eq_true rfl) (by first | (simp [mnB, bI, c_35, c_72, c_118, c_134, c_173, c_215, c_221, c_233]; done) | (simp [mnB, bI, c_35, c_72, c_118, c_134, c_173, c_215, c_221, c_233]; omega) | (simp [mnB, bI, c_35, c_72, c_118, c_134, c_173, c_215, c_221, c_233, hc121]; done) | (rcases (show ch p = 121 ∨ ch p = 97 by omega) with z | z <;> simp [mnB, bI, c_35, c_72, c_118, c_134, c_173, c_215, c_221, c_233, z]; done)) dX6_isDone_332
                · skip
                  refine lv_iconst (v := (1 : Int32)) hx hb dX6_isDone_236 (by decide) ?_
                  refine lv_goto (tgt := 241) hx hb dX6_isDone_237 (by decide) ?_
                  refine lv_istore (lv' := [(5, .int (1 : Int32)), (4, .int (M 11 ((4 * k) + 2))), (3, .int (M 11 ((4 * k) + 1))), (2, .int (nI (ch p))), (0, .ref h), (1, .int (nI k))]) hx hb dX6_isDone_241 hl (by decide) rfl (fun ls hl => ?_)
                  refine lv_iload hx hb dX6_isDone_243 (lv_at hl 0 rfl) ?_
                  refine lv_if_eq (tgt := 279) hx hb dX6_isDone_245 (by decide) (fun c_245 => ?_) (fun c_245 => ?_)
                  · exact absurd c_245 (by decide)
                  refine lv_iload_n hx hb dX6_isDone_248 rfl (lv_at hl 3 rfl) ?_
                  refine lv_bipush (v := (121 : Int32)) hx hb dX6_isDone_249 (by decide) ?_
                  refine xn_icmp_ne (tgt := 279) hx hb (ch p) 121 rfl rfl (by omega) (by decide) dX6_isDone_251 (by decide) (fun c_251 => ?_) (fun c_251 => ?_)
                  · omega
                  · skip
                    refine lv_aload_n hx hb dX6_isDone_254 rfl (lv_at hl 4 rfl) ?_
                    refine va_get (ci := 6) (v := .ref (a 0)) (C := RX6) (T := TX6) (N := 14) hx hb hts hi6 hown hK hP 0 rfl rfl 0 (by decide) lk7 (fun _ h9 => h9) rfl dX6_isDone_255 ?_
                    refine lv_bipush (v := (70 : Int32)) hx hb dX6_isDone_258 (by decide) ?_
                    refine lv_bipush (v := (6 : Int32)) hx hb dX6_isDone_260 (by decide) ?_
                    refine lv_iload_n hx hb dX6_isDone_262 rfl (lv_at hl 2 rfl) ?_
                    refine lv_imul hx hb dX6_isDone_263 ?_
                    refine lv_iadd hx hb dX6_isDone_264 ?_
                    refine lv_iload hx hb dX6_isDone_265 (lv_at hl 1 rfl) ?_
                    refine lv_iadd hx hb dX6_isDone_267 ?_
                    refine lv_aload_n hx hb dX6_isDone_268 rfl (lv_at hl 4 rfl) ?_
                    refine va_get (ci := 6) (v := .ref (a 11)) (C := RX6) (T := TX6) (N := 14) hx hb hts hi6 hown hK hP 0 rfl rfl 11 (by decide) lk35 (fun _ h9 => h9) rfl dX6_isDone_269 ?_
                    refine lv_iconst (v := (4 : Int32)) hx hb dX6_isDone_272 (by decide) ?_
                    refine lv_iload_n hx hb dX6_isDone_273 rfl (lv_at hl 5 rfl) ?_
                    refine lv_imul hx hb dX6_isDone_274 ?_
                    refine lv_iconst (v := (3 : Int32)) hx hb dX6_isDone_275 (by decide) ?_
                    refine lv_iadd hx hb dX6_isDone_276 ?_
                    refine xi_ld hx hb hK hP 9 (f := M 11) rfl ((4 * k) + 3) (nn_add (nn_mul rfl rfl) rfl) (by omega) (by decide) dX6_isDone_277 ?_
                    refine xi_st hx hb hK hP hD hS 1 (f := M 0) rfl ((70 + (6 * (ch (p + 1) - 48))) + (ch (p + 2) - 48)) (nn_add (nn_add rfl (nn_mul rfl hd1)) hd2) (by omega) (by decide) (mw K h a (hrow M 0 (upd (M 0) ((70 + (6 * (ch (p + 1) - 48))) + (ch (p + 2) - 48)) (M 11 ((4 * k) + 3))))) rfl dX6_isDone_278 (fun H locs hP hD hS => ?_)
                    refine lv_iload hx hb dX6_isDone_279 (lv_at hl 0 rfl) ?_
                    refine lv_if_eq (tgt := 301) hx hb dX6_isDone_281 (by decide) (fun c_281 => ?_) (fun c_281 => ?_)
                    · exact absurd c_281 (by decide)
                    refine lv_iload_n hx hb dX6_isDone_284 rfl (lv_at hl 3 rfl) ?_
                    refine lv_bipush (v := (102 : Int32)) hx hb dX6_isDone_285 (by decide) ?_
                    refine xn_icmp_ne (tgt := 301) hx hb (ch p) 102 rfl rfl (by omega) (by decide) dX6_isDone_287 (by decide) (fun c_287 => ?_) (fun c_287 => ?_)
                    · skip
                      refine lv_iload hx hb dX6_isDone_301 (lv_at hl 0 rfl) ?_
                      refine lv_if_eq (tgt := 330) hx hb dX6_isDone_303 (by decide) (fun c_303 => ?_) (fun c_303 => ?_)
                      · exact absurd c_303 (by decide)
                      refine lv_iload_n hx hb dX6_isDone_306 rfl (lv_at hl 3 rfl) ?_
                      refine lv_bipush (v := (97 : Int32)) hx hb dX6_isDone_307 (by decide) ?_
                      refine xn_icmp_ne (tgt := 330) hx hb (ch p) 97 rfl rfl (by omega) (by decide) dX6_isDone_309 (by decide) (fun c_309 => ?_) (fun c_309 => ?_)
                      · skip
                        refine lv_iload hx hb dX6_isDone_330 (lv_at hl 0 rfl) ?_
                        have eR4 : (upd (M 0) ((70 + (6 * (ch (p + 1) - 48))) + (ch (p + 2) - 48)) (M 11 ((4 * k) + 3))) = (mnT (M 0, R, P) (ch p) (ch (p + 1) - 48) (ch (p + 2) - 48) (ch (p + 3) - 48)).1 := by first | (simp [mnT, c_35, c_72, c_118, c_134, c_173, c_215, c_221, c_233, c_251, c_287, c_309]; done) | (simp [mnT, c_35, c_72, c_118, c_134, c_173, c_215, c_221, c_233, c_251, c_287, c_309]; intro z; omega) | (simp [mnT, c_35, c_72, c_118, c_134, c_173, c_215, c_221, c_233, c_251, c_287, c_309, hd1]; done) | (simp [mnT, c_35, c_72, c_118, c_134, c_173, c_215, c_221, c_233, c_251, c_287, c_309, hd1, hd2]; done) | (simp [mnT, c_35, c_72, c_118, c_134, c_173, c_215, c_221, c_233, c_251, c_287, c_309, hc121, hd1, hd2, hd3]; done) | (rcases (show ch p = 121 ∨ ch p = 97 by omega) with z | z <;> simp [mnT, c_35, c_72, c_118, c_134, c_173, c_215, c_221, c_233, c_251, c_287, c_309, z]; done)
                        rw [eR4] at hP hD
                        exact hend _ _ _ _ _ _ _ (by decide) (M 9, M 10) hP hD hS (Nat.le_of_ble_eq_true rfl) (Nat.le_of_ble_eq_true rfl) (by first | (simp [mnB, bI, c_35, c_72, c_118, c_134, c_173, c_215, c_221, c_233, c_251, c_287, c_309]; done) | (simp [mnB, bI, c_35, c_72, c_118, c_134, c_173, c_215, c_221, c_233, c_251, c_287, c_309]; omega) | (simp [mnB, bI, c_35, c_72, c_118, c_134, c_173, c_215, c_221, c_233, c_251, c_287, c_309, hc121]; done) | (rcases (show ch p = 121 ∨ ch p = 97 by omega) with z | z <;> simp [mnB, bI, c_35, c_72, c_118, c_134, c_173, c_215, c_221, c_233, c_251, c_287, c_309, z]; done)) dX6_isDone_332
                      · omega
                    · omega
          · skip
            have hd1 := htd 1 (by decide) (by rw [c_173]; decide)
            have hj1 := hoc.2 1 (by decide) (by rw [c_173]; decide)
            have hg1 := gdD_le (ch p) 1
            have hd2 := htd 2 (by decide) (by rw [c_173]; decide)
            have hj2 := hoc.2 2 (by decide) (by rw [c_173]; decide)
            have hg2 := gdD_le (ch p) 2
            refine lv_aload_n hx hb dX6_isDone_176 rfl (lv_at hl 3 rfl) ?_
            refine va_get (ci := 6) (v := .ref (a 0)) (C := RX6) (T := TX6) (N := 14) hx hb hts hi6 hown hK hP 0 rfl rfl 0 (by decide) lk7 (fun _ h9 => h9) rfl dX6_isDone_177 ?_
            refine lv_iload_n hx hb dX6_isDone_180 rfl (lv_at hl 1 rfl) ?_
            rw [show M 11 ((4 * k) + 1) = nI (ch (p + 1) - 48) from hd1]
            have hPc := P_sub (ws' := [((a 0), aI K 190 (M 0))]) hP [1] rfl
            refine xr_S (As := [.ref (a 0), .int (nI (ch (p + 1) - 48))]) (rest := []) ⟨hx, hb, hml, hown, hts⟩ (c_X6_isRole_n l K (a 0) (M 0) (ch (p + 1) - 48) (by omega) R hR0 (by omega)) (va_cwS 2 hts gX6_isDone_X6_isRole rfl rfl rfl (by decide +kernel) ⟨Nat.le_of_ble_eq_true rfl, Nat.le_of_ble_eq_true rfl⟩) hK hPc rfl hl.1 rfl (Nat.le_of_ble_eq_true rfl) (Nat.le_of_ble_eq_true rfl) (Nat.le_of_ble_eq_true rfl) dX6_isDone_181 ?_
            refine xb_if_eq (tgt := 203) hx hb dX6_isDone_184 (by decide) (fun c_184 => ?_) (fun c_184 => ?_)
            · skip
              refine lv_iconst (v := (0 : Int32)) hx hb dX6_isDone_203 (by decide) ?_
              refine lv_goto (tgt := 241) hx hb dX6_isDone_204 (by decide) ?_
              refine lv_istore (lv' := [(5, .int (0 : Int32)), (4, .int (M 11 ((4 * k) + 2))), (3, .int (M 11 ((4 * k) + 1))), (2, .int (nI (ch p))), (0, .ref h), (1, .int (nI k))]) hx hb dX6_isDone_241 hl (by decide) rfl (fun ls hl => ?_)
              refine lv_iload hx hb dX6_isDone_243 (lv_at hl 0 rfl) ?_
              refine lv_if_eq (tgt := 279) hx hb dX6_isDone_245 (by decide) (fun c_245 => ?_) (fun c_245 => ?_)
              rotate_left
              · exact absurd (by decide) c_245
              refine lv_iload hx hb dX6_isDone_279 (lv_at hl 0 rfl) ?_
              refine lv_if_eq (tgt := 301) hx hb dX6_isDone_281 (by decide) (fun c_281 => ?_) (fun c_281 => ?_)
              rotate_left
              · exact absurd (by decide) c_281
              refine lv_iload hx hb dX6_isDone_301 (lv_at hl 0 rfl) ?_
              refine lv_if_eq (tgt := 330) hx hb dX6_isDone_303 (by decide) (fun c_303 => ?_) (fun c_303 => ?_)
              rotate_left
              · exact absurd (by decide) c_303
              refine lv_iload hx hb dX6_isDone_330 (lv_at hl 0 rfl) ?_
              have hP : va_P K.1 vwCl (mw K h a (hrow M 0 (M 0))) H := hP
              have hD : va_D A (mw K h a (hrow M 0 (M 0))) := hD
              have eR5 : (M 0) = (mnT (M 0, R, P) (ch p) (ch (p + 1) - 48) (ch (p + 2) - 48) (ch (p + 3) - 48)).1 := by first | (simp [mnT, c_35, c_72, c_118, c_134, c_173, c_184]; done) | (simp [mnT, c_35, c_72, c_118, c_134, c_173, c_184]; intro z; omega) | (simp [mnT, c_35, c_72, c_118, c_134, c_173, c_184, hd1]; done) | (simp [mnT, c_35, c_72, c_118, c_134, c_173, c_184, hd1, hd2]; done) | (simp [mnT, c_35, c_72, c_118, c_134, c_173, c_184, hc121, hd1, hd2, hd3]; done) | (rcases (show ch p = 121 ∨ ch p = 97 by omega) with z | z <;> simp [mnT, c_35, c_72, c_118, c_134, c_173, c_184, z]; done)
              have hP : va_P K.1 vwCl (mw K h a (hrow M 0 (mnT (M 0, R, P) (ch p) (ch (p + 1) - 48) (ch (p + 2) - 48) (ch (p + 3) - 48)).1)) H := by rw [← eR5]; exact hP
              have hD : va_D A (mw K h a (hrow M 0 (mnT (M 0, R, P) (ch p) (ch (p + 1) - 48) (ch (p + 2) - 48) (ch (p + 3) - 48)).1)) := by rw [← eR5]; exact hD
              exact hend _ _ _ _ _ _ _ (by decide) (M 9, M 10) hP hD hS (Nat.le_of_ble_eq_true rfl) (Nat.le_of_ble_eq_true rfl) (by first | (simp [mnB, bI, c_35, c_72, c_118, c_134, c_173, c_184]; done) | (simp [mnB, bI, c_35, c_72, c_118, c_134, c_173, c_184]; omega) | (simp [mnB, bI, c_35, c_72, c_118, c_134, c_173, c_184, hc121]; done) | (rcases (show ch p = 121 ∨ ch p = 97 by omega) with z | z <;> simp [mnB, bI, c_35, c_72, c_118, c_134, c_173, c_184, z]; done)) dX6_isDone_332
            · skip
              refine lv_aload_n hx hb dX6_isDone_187 rfl (lv_at hl 3 rfl) ?_
              refine va_get (ci := 6) (v := .ref (a 0)) (C := RX6) (T := TX6) (N := 14) hx hb hts hi6 hown hK hP 0 rfl rfl 0 (by decide) lk7 (fun _ h9 => h9) rfl dX6_isDone_188 ?_
              refine lv_iload hx hb dX6_isDone_191 (lv_at hl 0 rfl) ?_
              rw [show M 11 ((4 * k) + 2) = nI (ch (p + 2) - 48) from hd2]
              have hPc := P_sub (ws' := [((a 0), aI K 190 (M 0))]) hP [1] rfl
              refine xr_S (As := [.ref (a 0), .int (nI (ch (p + 2) - 48))]) (rest := []) ⟨hx, hb, hml, hown, hts⟩ (c_X6_isPlayer_n l K (a 0) (M 0) (ch (p + 2) - 48) (by omega) P hP0 (by omega)) (va_cwS 2 hts gX6_isDone_X6_isPlayer rfl rfl rfl (by decide +kernel) ⟨Nat.le_of_ble_eq_true rfl, Nat.le_of_ble_eq_true rfl⟩) hK hPc rfl hl.1 rfl (Nat.le_of_ble_eq_true rfl) (Nat.le_of_ble_eq_true rfl) (Nat.le_of_ble_eq_true rfl) dX6_isDone_193 ?_
              refine xb_if_eq (tgt := 203) hx hb dX6_isDone_196 (by decide) (fun c_196 => ?_) (fun c_196 => ?_)
              · skip
                refine lv_iconst (v := (0 : Int32)) hx hb dX6_isDone_203 (by decide) ?_
                refine lv_goto (tgt := 241) hx hb dX6_isDone_204 (by decide) ?_
                refine lv_istore (lv' := [(5, .int (0 : Int32)), (4, .int (M 11 ((4 * k) + 2))), (3, .int (M 11 ((4 * k) + 1))), (2, .int (nI (ch p))), (0, .ref h), (1, .int (nI k))]) hx hb dX6_isDone_241 hl (by decide) rfl (fun ls hl => ?_)
                refine lv_iload hx hb dX6_isDone_243 (lv_at hl 0 rfl) ?_
                refine lv_if_eq (tgt := 279) hx hb dX6_isDone_245 (by decide) (fun c_245 => ?_) (fun c_245 => ?_)
                rotate_left
                · exact absurd (by decide) c_245
                refine lv_iload hx hb dX6_isDone_279 (lv_at hl 0 rfl) ?_
                refine lv_if_eq (tgt := 301) hx hb dX6_isDone_281 (by decide) (fun c_281 => ?_) (fun c_281 => ?_)
                rotate_left
                · exact absurd (by decide) c_281
                refine lv_iload hx hb dX6_isDone_301 (lv_at hl 0 rfl) ?_
                refine lv_if_eq (tgt := 330) hx hb dX6_isDone_303 (by decide) (fun c_303 => ?_) (fun c_303 => ?_)
                rotate_left
                · exact absurd (by decide) c_303
                refine lv_iload hx hb dX6_isDone_330 (lv_at hl 0 rfl) ?_
                have hP : va_P K.1 vwCl (mw K h a (hrow M 0 (M 0))) H := hP
                have hD : va_D A (mw K h a (hrow M 0 (M 0))) := hD
                have eR6 : (M 0) = (mnT (M 0, R, P) (ch p) (ch (p + 1) - 48) (ch (p + 2) - 48) (ch (p + 3) - 48)).1 := by first | (simp [mnT, c_35, c_72, c_118, c_134, c_173, c_184, c_196]; done) | (simp [mnT, c_35, c_72, c_118, c_134, c_173, c_184, c_196]; intro z; omega) | (simp [mnT, c_35, c_72, c_118, c_134, c_173, c_184, c_196, hd1]; done) | (simp [mnT, c_35, c_72, c_118, c_134, c_173, c_184, c_196, hd1, hd2]; done) | (simp [mnT, c_35, c_72, c_118, c_134, c_173, c_184, c_196, hc121, hd1, hd2, hd3]; done) | (rcases (show ch p = 121 ∨ ch p = 97 by omega) with z | z <;> simp [mnT, c_35, c_72, c_118, c_134, c_173, c_184, c_196, z]; done)
                have hP : va_P K.1 vwCl (mw K h a (hrow M 0 (mnT (M 0, R, P) (ch p) (ch (p + 1) - 48) (ch (p + 2) - 48) (ch (p + 3) - 48)).1)) H := by rw [← eR6]; exact hP
                have hD : va_D A (mw K h a (hrow M 0 (mnT (M 0, R, P) (ch p) (ch (p + 1) - 48) (ch (p + 2) - 48) (ch (p + 3) - 48)).1)) := by rw [← eR6]; exact hD
                exact hend _ _ _ _ _ _ _ (by decide) (M 9, M 10) hP hD hS (Nat.le_of_ble_eq_true rfl) (Nat.le_of_ble_eq_true rfl) (by first | (simp [mnB, bI, c_35, c_72, c_118, c_134, c_173, c_184, c_196]; done) | (simp [mnB, bI, c_35, c_72, c_118, c_134, c_173, c_184, c_196]; omega) | (simp [mnB, bI, c_35, c_72, c_118, c_134, c_173, c_184, c_196, hc121]; done) | (rcases (show ch p = 121 ∨ ch p = 97 by omega) with z | z <;> simp [mnB, bI, c_35, c_72, c_118, c_134, c_173, c_184, c_196, z]; done)) dX6_isDone_332
              · skip
                refine lv_iconst (v := (1 : Int32)) hx hb dX6_isDone_199 (by decide) ?_
                refine lv_goto (tgt := 241) hx hb dX6_isDone_200 (by decide) ?_
                refine lv_istore (lv' := [(5, .int (1 : Int32)), (4, .int (M 11 ((4 * k) + 2))), (3, .int (M 11 ((4 * k) + 1))), (2, .int (nI (ch p))), (0, .ref h), (1, .int (nI k))]) hx hb dX6_isDone_241 hl (by decide) rfl (fun ls hl => ?_)
                refine lv_iload hx hb dX6_isDone_243 (lv_at hl 0 rfl) ?_
                refine lv_if_eq (tgt := 279) hx hb dX6_isDone_245 (by decide) (fun c_245 => ?_) (fun c_245 => ?_)
                · exact absurd c_245 (by decide)
                refine lv_iload_n hx hb dX6_isDone_248 rfl (lv_at hl 3 rfl) ?_
                refine lv_bipush (v := (121 : Int32)) hx hb dX6_isDone_249 (by decide) ?_
                refine xn_icmp_ne (tgt := 279) hx hb (ch p) 121 rfl rfl (by omega) (by decide) dX6_isDone_251 (by decide) (fun c_251 => ?_) (fun c_251 => ?_)
                · skip
                  refine lv_iload hx hb dX6_isDone_279 (lv_at hl 0 rfl) ?_
                  refine lv_if_eq (tgt := 301) hx hb dX6_isDone_281 (by decide) (fun c_281 => ?_) (fun c_281 => ?_)
                  · exact absurd c_281 (by decide)
                  refine lv_iload_n hx hb dX6_isDone_284 rfl (lv_at hl 3 rfl) ?_
                  refine lv_bipush (v := (102 : Int32)) hx hb dX6_isDone_285 (by decide) ?_
                  refine xn_icmp_ne (tgt := 301) hx hb (ch p) 102 rfl rfl (by omega) (by decide) dX6_isDone_287 (by decide) (fun c_287 => ?_) (fun c_287 => ?_)
                  · omega
                  · skip
                    refine lv_aload_n hx hb dX6_isDone_290 rfl (lv_at hl 4 rfl) ?_
                    refine va_get (ci := 6) (v := .ref (a 0)) (C := RX6) (T := TX6) (N := 14) hx hb hts hi6 hown hK hP 0 rfl rfl 0 (by decide) lk7 (fun _ h9 => h9) rfl dX6_isDone_291 ?_
                    refine lv_bipush (v := (18 : Int32)) hx hb dX6_isDone_294 (by decide) ?_
                    refine lv_iload_n hx hb dX6_isDone_296 rfl (lv_at hl 2 rfl) ?_
                    refine lv_iadd hx hb dX6_isDone_297 ?_
                    refine lv_iload hx hb dX6_isDone_298 (lv_at hl 1 rfl) ?_
                    refine xi_st hx hb hK hP hD hS 1 (f := M 0) rfl (18 + (ch (p + 1) - 48)) (nn_add rfl hd1) (by omega) (by decide) (mw K h a (hrow M 0 (upd (M 0) (18 + (ch (p + 1) - 48)) (M 11 ((4 * k) + 2))))) rfl dX6_isDone_300 (fun H locs hP hD hS => ?_)
                    refine lv_iload hx hb dX6_isDone_301 (lv_at hl 0 rfl) ?_
                    refine lv_if_eq (tgt := 330) hx hb dX6_isDone_303 (by decide) (fun c_303 => ?_) (fun c_303 => ?_)
                    · exact absurd c_303 (by decide)
                    refine lv_iload_n hx hb dX6_isDone_306 rfl (lv_at hl 3 rfl) ?_
                    refine lv_bipush (v := (97 : Int32)) hx hb dX6_isDone_307 (by decide) ?_
                    refine xn_icmp_ne (tgt := 330) hx hb (ch p) 97 rfl rfl (by omega) (by decide) dX6_isDone_309 (by decide) (fun c_309 => ?_) (fun c_309 => ?_)
                    · skip
                      refine lv_iload hx hb dX6_isDone_330 (lv_at hl 0 rfl) ?_
                      have eR7 : (upd (M 0) (18 + (ch (p + 1) - 48)) (M 11 ((4 * k) + 2))) = (mnT (M 0, R, P) (ch p) (ch (p + 1) - 48) (ch (p + 2) - 48) (ch (p + 3) - 48)).1 := by first | (simp [mnT, c_35, c_72, c_118, c_134, c_173, c_184, c_196, c_251, c_287, c_309]; done) | (simp [mnT, c_35, c_72, c_118, c_134, c_173, c_184, c_196, c_251, c_287, c_309]; intro z; omega) | (simp [mnT, c_35, c_72, c_118, c_134, c_173, c_184, c_196, c_251, c_287, c_309, hd1]; done) | (simp [mnT, c_35, c_72, c_118, c_134, c_173, c_184, c_196, c_251, c_287, c_309, hd1, hd2]; done) | (simp [mnT, c_35, c_72, c_118, c_134, c_173, c_184, c_196, c_251, c_287, c_309, hc121, hd1, hd2, hd3]; done) | (rcases (show ch p = 121 ∨ ch p = 97 by omega) with z | z <;> simp [mnT, c_35, c_72, c_118, c_134, c_173, c_184, c_196, c_251, c_287, c_309, z]; done)
                      rw [eR7] at hP hD
                      exact hend _ _ _ _ _ _ _ (by decide) (M 9, M 10) hP hD hS (Nat.le_of_ble_eq_true rfl) (Nat.le_of_ble_eq_true rfl) (by first | (simp [mnB, bI, c_35, c_72, c_118, c_134, c_173, c_184, c_196, c_251, c_287, c_309]; done) | (simp [mnB, bI, c_35, c_72, c_118, c_134, c_173, c_184, c_196, c_251, c_287, c_309]; omega) | (simp [mnB, bI, c_35, c_72, c_118, c_134, c_173, c_184, c_196, c_251, c_287, c_309, hc121]; done) | (rcases (show ch p = 121 ∨ ch p = 97 by omega) with z | z <;> simp [mnB, bI, c_35, c_72, c_118, c_134, c_173, c_184, c_196, c_251, c_287, c_309, z]; done)) dX6_isDone_332
                    · omega
                · omega
        · skip
          refine lv_aload_n hx hb dX6_isDone_137 rfl (lv_at hl 3 rfl) ?_
          refine va_get (ci := 6) (v := .ref (a 0)) (C := RX6) (T := TX6) (N := 14) hx hb hts hi6 hown hK hP 0 rfl rfl 0 (by decide) lk7 (fun _ h9 => h9) rfl dX6_isDone_138 ?_
          refine lv_iconst (v := (3 : Int32)) hx hb dX6_isDone_141 (by decide) ?_
          refine xi_ld hx hb hK hP 1 (f := M 0) rfl 3 rfl (by omega) (by decide) dX6_isDone_142 ?_
          refine xn_if_le (tgt := 150) hx hb R hR0 (by omega) dX6_isDone_143 (by decide) (fun c_143 => ?_) (fun c_143 => ?_)
          · skip
            refine lv_iconst (v := (0 : Int32)) hx hb dX6_isDone_150 (by decide) ?_
            refine lv_istore (lv' := [(5, .int (0 : Int32)), (4, .int (M 11 ((4 * k) + 2))), (3, .int (M 11 ((4 * k) + 1))), (2, .int (nI (ch p))), (0, .ref h), (1, .int (nI k))]) hx hb dX6_isDone_151 hl (by decide) rfl (fun ls hl => ?_)
            refine lv_iload hx hb dX6_isDone_153 (lv_at hl 0 rfl) ?_
            refine lv_if_eq (tgt := 167) hx hb dX6_isDone_155 (by decide) (fun c_155 => ?_) (fun c_155 => ?_)
            rotate_left
            · exact absurd (by decide) c_155
            refine lv_iload hx hb dX6_isDone_167 (lv_at hl 0 rfl) ?_
            have hP : va_P K.1 vwCl (mw K h a (hrow M 0 (M 0))) H := hP
            have hD : va_D A (mw K h a (hrow M 0 (M 0))) := hD
            have eR8 : (M 0) = (mnT (M 0, R, P) (ch p) (ch (p + 1) - 48) (ch (p + 2) - 48) (ch (p + 3) - 48)).1 := by first | (simp [mnT, c_35, c_72, c_118, c_134, c_143]; done) | (simp [mnT, c_35, c_72, c_118, c_134, c_143]; intro z; omega) | (simp [mnT, c_35, c_72, c_118, c_134, c_143, hd1]; done) | (simp [mnT, c_35, c_72, c_118, c_134, c_143, hd1, hd2]; done) | (simp [mnT, c_35, c_72, c_118, c_134, c_143, hc121, hd1, hd2, hd3]; done) | (rcases (show ch p = 121 ∨ ch p = 97 by omega) with z | z <;> simp [mnT, c_35, c_72, c_118, c_134, c_143, z]; done)
            have hP : va_P K.1 vwCl (mw K h a (hrow M 0 (mnT (M 0, R, P) (ch p) (ch (p + 1) - 48) (ch (p + 2) - 48) (ch (p + 3) - 48)).1)) H := by rw [← eR8]; exact hP
            have hD : va_D A (mw K h a (hrow M 0 (mnT (M 0, R, P) (ch p) (ch (p + 1) - 48) (ch (p + 2) - 48) (ch (p + 3) - 48)).1)) := by rw [← eR8]; exact hD
            exact hend _ _ _ _ _ _ _ (by decide) (M 9, M 10) hP hD hS (Nat.le_of_ble_eq_true rfl) (Nat.le_of_ble_eq_true rfl) (by first | (simp [mnB, bI, c_35, c_72, c_118, c_134, c_143]; done) | (simp [mnB, bI, c_35, c_72, c_118, c_134, c_143]; omega) | (simp [mnB, bI, c_35, c_72, c_118, c_134, c_143, hc121]; done) | (rcases (show ch p = 121 ∨ ch p = 97 by omega) with z | z <;> simp [mnB, bI, c_35, c_72, c_118, c_134, c_143, z]; done)) dX6_isDone_169
          · skip
            refine lv_iconst (v := (1 : Int32)) hx hb dX6_isDone_146 (by decide) ?_
            refine lv_goto (tgt := 151) hx hb dX6_isDone_147 (by decide) ?_
            refine lv_istore (lv' := [(5, .int (1 : Int32)), (4, .int (M 11 ((4 * k) + 2))), (3, .int (M 11 ((4 * k) + 1))), (2, .int (nI (ch p))), (0, .ref h), (1, .int (nI k))]) hx hb dX6_isDone_151 hl (by decide) rfl (fun ls hl => ?_)
            refine lv_iload hx hb dX6_isDone_153 (lv_at hl 0 rfl) ?_
            refine lv_if_eq (tgt := 167) hx hb dX6_isDone_155 (by decide) (fun c_155 => ?_) (fun c_155 => ?_)
            · exact absurd c_155 (by decide)
            refine lv_aload_n hx hb dX6_isDone_158 rfl (lv_at hl 4 rfl) ?_
            refine lv_aload_n hx hb dX6_isDone_159 rfl (lv_at hl 4 rfl) ?_
            refine va_get (ci := 6) (v := .ref (a 0)) (C := RX6) (T := TX6) (N := 14) hx hb hts hi6 hown hK hP 0 rfl rfl 0 (by decide) lk7 (fun _ h9 => h9) rfl dX6_isDone_160 ?_
            refine xw_Vi (As := [.ref (a 0)]) (rest := []) (wc := mw K h a M) (wr := (List.filterMap (fun i => (mw K h a M : va_W)[i]?) ([] : List Nat))) ⟨hx, hb, hml, hown, hts⟩ (c_X6_plays_n l K h a M R hR0 (by omega) P hP0 (by omega) (by first | assumption | omega) H.size) (cwV 1 hts gX6_isDone_X6_plays rfl rfl rfl (by decide +kernel) ⟨Nat.le_of_ble_eq_true rfl, Nat.le_of_ble_eq_true rfl⟩) hK hP hD hS hA [0, 1, 2, 3, 4, 5, 6, 7, 8, 9] [] [0, 1, 2, 3, 4, 5, 6, 7, 8, 9] rfl rfl rfl (fun E163 => mw K h a (hrow (hrow (hrow M 0 (mPlay (M 0) R P)) 9 E163) 10 (mcR (M 0) R P (M 10) 6))) (fun _ => rfl) 0 6 rfl rfl rfl rfl hl.1 rfl (Nat.le_of_ble_eq_true rfl) (Nat.le_of_ble_eq_true rfl) (Nat.le_of_ble_eq_true rfl) dX6_isDone_163 (fun r163 E163 H locs hq163 hP hD hS => ?_)
            have hP : va_P K.1 vwCl (mw K h a (hrow (hrow (hrow M 0 (mPlay (M 0) R P)) 9 E163) 10 (mcR (M 0) R P (M 10) 6))) H := hP
            have hD : va_D A (mw K h a (hrow (hrow (hrow M 0 (mPlay (M 0) R P)) 9 E163) 10 (mcR (M 0) R P (M 10) 6))) := hD
            subst hq163
            refine lv_pop hx hb dX6_isDone_166 rfl ?_
            refine lv_iload hx hb dX6_isDone_167 (lv_at hl 0 rfl) ?_
            have eR9 : (mPlay (M 0) R P) = (mnT (M 0, R, P) (ch p) (ch (p + 1) - 48) (ch (p + 2) - 48) (ch (p + 3) - 48)).1 := by first | (simp [mnT, c_35, c_72, c_118, c_134, c_143]; done) | (simp [mnT, c_35, c_72, c_118, c_134, c_143]; intro z; omega) | (simp [mnT, c_35, c_72, c_118, c_134, c_143, hd1]; done) | (simp [mnT, c_35, c_72, c_118, c_134, c_143, hd1, hd2]; done) | (simp [mnT, c_35, c_72, c_118, c_134, c_143, hc121, hd1, hd2, hd3]; done) | (rcases (show ch p = 121 ∨ ch p = 97 by omega) with z | z <;> simp [mnT, c_35, c_72, c_118, c_134, c_143, z]; done)
            rw [eR9] at hP hD
            exact hend _ _ _ _ _ _ _ (by decide) (E163, mcR (M 0) R P (M 10) 6) hP hD hS (Nat.le_of_ble_eq_true rfl) (Nat.le_of_ble_eq_true rfl) (by first | (simp [mnB, bI, c_35, c_72, c_118, c_134, c_143]; done) | (simp [mnB, bI, c_35, c_72, c_118, c_134, c_143]; omega) | (simp [mnB, bI, c_35, c_72, c_118, c_134, c_143, hc121]; done) | (rcases (show ch p = 121 ∨ ch p = 97 by omega) with z | z <;> simp [mnB, bI, c_35, c_72, c_118, c_134, c_143, z]; done)) dX6_isDone_169
      · skip
        have hd1 := htd 1 (by decide) (by rw [c_118]; decide)
        have hj1 := hoc.2 1 (by decide) (by rw [c_118]; decide)
        have hg1 := gdD_le (ch p) 1
        refine lv_aload_n hx hb dX6_isDone_121 rfl (lv_at hl 3 rfl) ?_
        refine va_get (ci := 6) (v := .ref (a 0)) (C := RX6) (T := TX6) (N := 14) hx hb hts hi6 hown hK hP 0 rfl rfl 0 (by decide) lk7 (fun _ h9 => h9) rfl dX6_isDone_122 ?_
        refine lv_iload_n hx hb dX6_isDone_125 rfl (lv_at hl 1 rfl) ?_
        rw [show M 11 ((4 * k) + 1) = nI (ch (p + 1) - 48) from hd1]
        refine xw_Sv (As := [.ref (a 0), .int (nI (ch (p + 1) - 48))]) (rest := []) (wc := [((a 0), aI K 190 (M 0))]) (wr := (List.filterMap (fun i => (mw K h a M : va_W)[i]?) ([0, 2, 3, 4, 5, 6, 7, 8, 9] : List Nat))) ⟨hx, hb, hml, hown, hts⟩ (c_X6_darkens l K (a 0) (M 0) (ch (p + 1) - 48) (by omega) P hP0 (by omega) H.size) (va_cwS 2 hts gX6_isDone_X6_darkens rfl rfl rfl (by decide +kernel) ⟨Nat.le_of_ble_eq_true rfl, Nat.le_of_ble_eq_true rfl⟩) hK hP hD hS hA [1] [0, 2, 3, 4, 5, 6, 7, 8, 9] [0, 9, 1, 2, 3, 4, 5, 6, 7, 8] rfl rfl rfl (fun _u => mw K h a (hrow M 0 (mDk (M 0) (ch (p + 1) - 48) P))) (fun _ => rfl) rfl hl.1 rfl (Nat.le_of_ble_eq_true rfl) (Nat.le_of_ble_eq_true rfl) (Nat.le_of_ble_eq_true rfl) dX6_isDone_126 (fun _ H locs hq126 hP hD hS => ?_)
        have hP : va_P K.1 vwCl (mw K h a (hrow M 0 (mDk (M 0) (ch (p + 1) - 48) P))) H := hP
        have hD : va_D A (mw K h a (hrow M 0 (mDk (M 0) (ch (p + 1) - 48) P))) := hD
        refine lv_iconst (v := (1 : Int32)) hx hb dX6_isDone_129 (by decide) ?_
        have eR10 : (mDk (M 0) (ch (p + 1) - 48) P) = (mnT (M 0, R, P) (ch p) (ch (p + 1) - 48) (ch (p + 2) - 48) (ch (p + 3) - 48)).1 := by first | (simp [mnT, c_35, c_72, c_118]; done) | (simp [mnT, c_35, c_72, c_118]; intro z; omega) | (simp [mnT, c_35, c_72, c_118, hd1]; done) | (simp [mnT, c_35, c_72, c_118, hd1, hd2]; done) | (simp [mnT, c_35, c_72, c_118, hc121, hd1, hd2, hd3]; done) | (rcases (show ch p = 121 ∨ ch p = 97 by omega) with z | z <;> simp [mnT, c_35, c_72, c_118, z]; done)
        rw [eR10] at hP hD
        exact hend _ _ _ _ _ _ _ (by decide) (M 9, M 10) hP hD hS (Nat.le_of_ble_eq_true rfl) (Nat.le_of_ble_eq_true rfl) (by first | (simp [mnB, bI, c_35, c_72, c_118]; done) | (simp [mnB, bI, c_35, c_72, c_118]; omega) | (simp [mnB, bI, c_35, c_72, c_118, hc121]; done) | (rcases (show ch p = 121 ∨ ch p = 97 by omega) with z | z <;> simp [mnB, bI, c_35, c_72, c_118, z]; done)) dX6_isDone_130
    · skip
      refine lv_aload_n hx hb dX6_isDone_75 rfl (lv_at hl 3 rfl) ?_
      refine va_get (ci := 6) (v := .ref (a 0)) (C := RX6) (T := TX6) (N := 14) hx hb hts hi6 hown hK hP 0 rfl rfl 0 (by decide) lk7 (fun _ h9 => h9) rfl dX6_isDone_76 ?_
      refine lv_iconst (v := (4 : Int32)) hx hb dX6_isDone_79 (by decide) ?_
      refine xi_ld hx hb hK hP 1 (f := M 0) rfl 4 rfl (by omega) (by decide) dX6_isDone_80 ?_
      refine lv_bipush (v := (10 : Int32)) hx hb dX6_isDone_81 (by decide) ?_
      refine xn_icmp_ge (tgt := 90) hx hb P 10 hP0 rfl (by omega) (by decide) dX6_isDone_83 (by decide) (fun c_83 => ?_) (fun c_83 => ?_)
      · skip
        refine lv_iconst (v := (0 : Int32)) hx hb dX6_isDone_90 (by decide) ?_
        refine lv_istore (lv' := [(5, .int (0 : Int32)), (4, .int (M 11 ((4 * k) + 2))), (3, .int (M 11 ((4 * k) + 1))), (2, .int (nI (ch p))), (0, .ref h), (1, .int (nI k))]) hx hb dX6_isDone_91 hl (by decide) rfl (fun ls hl => ?_)
        refine lv_aload_n hx hb dX6_isDone_93 rfl (lv_at hl 4 rfl) ?_
        refine va_get (ci := 6) (v := .ref (a 0)) (C := RX6) (T := TX6) (N := 14) hx hb hts hi6 hown hK hP 0 rfl rfl 0 (by decide) lk7 (fun _ h9 => h9) rfl dX6_isDone_94 ?_
        refine lv_iconst (v := (4 : Int32)) hx hb dX6_isDone_97 (by decide) ?_
        refine lv_dup2_11 hx hb dX6_isDone_98 rfl rfl ?_
        refine xi_ld hx hb hK hP 1 (f := M 0) rfl 4 rfl (by omega) (by decide) dX6_isDone_99 ?_
        refine lv_iload hx hb dX6_isDone_100 (lv_at hl 0 rfl) ?_
        refine lv_if_eq (tgt := 109) hx hb dX6_isDone_102 (by decide) (fun c_102 => ?_) (fun c_102 => ?_)
        rotate_left
        · exact absurd (by decide) c_102
        refine lv_iconst (v := (0 : Int32)) hx hb dX6_isDone_109 (by decide) ?_
        refine lv_iadd hx hb dX6_isDone_110 ?_
        refine xi_st hx hb hK hP hD hS 1 (f := M 0) rfl 4 rfl (by omega) (by decide) (mw K h a (hrow M 0 (upd (M 0) 4 ((M 0 4) + (0 : Int32))))) rfl dX6_isDone_111 (fun H locs hP hD hS => ?_)
        refine lv_iload hx hb dX6_isDone_112 (lv_at hl 0 rfl) ?_
        have eR11 : (upd (M 0) 4 ((M 0 4) + (0 : Int32))) = (mnT (M 0, R, P) (ch p) (ch (p + 1) - 48) (ch (p + 2) - 48) (ch (p + 3) - 48)).1 := by first | (simp [mnT, c_35, c_72, c_83]; done) | (simp [mnT, c_35, c_72, c_83]; intro z; omega) | (simp [mnT, c_35, c_72, c_83, hd1]; done) | (simp [mnT, c_35, c_72, c_83, hd1, hd2]; done) | (simp [mnT, c_35, c_72, c_83, hc121, hd1, hd2, hd3]; done) | (rcases (show ch p = 121 ∨ ch p = 97 by omega) with z | z <;> simp [mnT, c_35, c_72, c_83, z]; done)
        rw [eR11] at hP hD
        exact hend _ _ _ _ _ _ _ (by decide) (M 9, M 10) hP hD hS (Nat.le_of_ble_eq_true rfl) (Nat.le_of_ble_eq_true rfl) (by first | (simp [mnB, bI, c_35, c_72, c_83]; done) | (simp [mnB, bI, c_35, c_72, c_83]; omega) | (simp [mnB, bI, c_35, c_72, c_83, hc121]; done) | (rcases (show ch p = 121 ∨ ch p = 97 by omega) with z | z <;> simp [mnB, bI, c_35, c_72, c_83, z]; done)) dX6_isDone_114
      · skip
        refine lv_iconst (v := (1 : Int32)) hx hb dX6_isDone_86 (by decide) ?_
        refine lv_goto (tgt := 91) hx hb dX6_isDone_87 (by decide) ?_
        refine lv_istore (lv' := [(5, .int (1 : Int32)), (4, .int (M 11 ((4 * k) + 2))), (3, .int (M 11 ((4 * k) + 1))), (2, .int (nI (ch p))), (0, .ref h), (1, .int (nI k))]) hx hb dX6_isDone_91 hl (by decide) rfl (fun ls hl => ?_)
        refine lv_aload_n hx hb dX6_isDone_93 rfl (lv_at hl 4 rfl) ?_
        refine va_get (ci := 6) (v := .ref (a 0)) (C := RX6) (T := TX6) (N := 14) hx hb hts hi6 hown hK hP 0 rfl rfl 0 (by decide) lk7 (fun _ h9 => h9) rfl dX6_isDone_94 ?_
        refine lv_iconst (v := (4 : Int32)) hx hb dX6_isDone_97 (by decide) ?_
        refine lv_dup2_11 hx hb dX6_isDone_98 rfl rfl ?_
        refine xi_ld hx hb hK hP 1 (f := M 0) rfl 4 rfl (by omega) (by decide) dX6_isDone_99 ?_
        refine lv_iload hx hb dX6_isDone_100 (lv_at hl 0 rfl) ?_
        refine lv_if_eq (tgt := 109) hx hb dX6_isDone_102 (by decide) (fun c_102 => ?_) (fun c_102 => ?_)
        · exact absurd c_102 (by decide)
        refine lv_iconst (v := (1 : Int32)) hx hb dX6_isDone_105 (by decide) ?_
        refine lv_goto (tgt := 110) hx hb dX6_isDone_106 (by decide) ?_
        refine lv_iadd hx hb dX6_isDone_110 ?_
        refine xi_st hx hb hK hP hD hS 1 (f := M 0) rfl 4 rfl (by omega) (by decide) (mw K h a (hrow M 0 (upd (M 0) 4 ((M 0 4) + (1 : Int32))))) rfl dX6_isDone_111 (fun H locs hP hD hS => ?_)
        refine lv_iload hx hb dX6_isDone_112 (lv_at hl 0 rfl) ?_
        have eR12 : (upd (M 0) 4 ((M 0 4) + (1 : Int32))) = (mnT (M 0, R, P) (ch p) (ch (p + 1) - 48) (ch (p + 2) - 48) (ch (p + 3) - 48)).1 := by first | (simp [mnT, c_35, c_72, c_83]; done) | (simp [mnT, c_35, c_72, c_83]; intro z; omega) | (simp [mnT, c_35, c_72, c_83, hd1]; done) | (simp [mnT, c_35, c_72, c_83, hd1, hd2]; done) | (simp [mnT, c_35, c_72, c_83, hc121, hd1, hd2, hd3]; done) | (rcases (show ch p = 121 ∨ ch p = 97 by omega) with z | z <;> simp [mnT, c_35, c_72, c_83, z]; done)
        rw [eR12] at hP hD
        exact hend _ _ _ _ _ _ _ (by decide) (M 9, M 10) hP hD hS (Nat.le_of_ble_eq_true rfl) (Nat.le_of_ble_eq_true rfl) (by first | (simp [mnB, bI, c_35, c_72, c_83]; done) | (simp [mnB, bI, c_35, c_72, c_83]; omega) | (simp [mnB, bI, c_35, c_72, c_83, hc121]; done) | (rcases (show ch p = 121 ∨ ch p = 97 by omega) with z | z <;> simp [mnB, bI, c_35, c_72, c_83, z]; done)) dX6_isDone_114
  · skip
    have hd1 := htd 1 (by decide) (by rw [c_35]; decide)
    have hj1 := hoc.2 1 (by decide) (by rw [c_35]; decide)
    have hg1 := gdD_le (ch p) 1
    refine lv_aload_n hx hb dX6_isDone_38 rfl (lv_at hl 3 rfl) ?_
    refine va_get (ci := 6) (v := .ref (a 0)) (C := RX6) (T := TX6) (N := 14) hx hb hts hi6 hown hK hP 0 rfl rfl 0 (by decide) lk7 (fun _ h9 => h9) rfl dX6_isDone_39 ?_
    refine lv_iconst (v := (3 : Int32)) hx hb dX6_isDone_42 (by decide) ?_
    refine xi_ld hx hb hK hP 1 (f := M 0) rfl 3 rfl (by omega) (by decide) dX6_isDone_43 ?_
    refine lv_bipush (v := (6 : Int32)) hx hb dX6_isDone_44 (by decide) ?_
    refine xn_icmp_ge (tgt := 53) hx hb R 6 hR0 rfl (by omega) (by decide) dX6_isDone_46 (by decide) (fun c_46 => ?_) (fun c_46 => ?_)
    · skip
      refine lv_iconst (v := (0 : Int32)) hx hb dX6_isDone_53 (by decide) ?_
      refine lv_istore (lv' := [(5, .int (0 : Int32)), (4, .int (M 11 ((4 * k) + 2))), (3, .int (M 11 ((4 * k) + 1))), (2, .int (nI (ch p))), (0, .ref h), (1, .int (nI k))]) hx hb dX6_isDone_54 hl (by decide) rfl (fun ls hl => ?_)
      refine lv_iload hx hb dX6_isDone_56 (lv_at hl 0 rfl) ?_
      refine lv_if_eq (tgt := 66) hx hb dX6_isDone_58 (by decide) (fun c_58 => ?_) (fun c_58 => ?_)
      rotate_left
      · exact absurd (by decide) c_58
      refine lv_iload hx hb dX6_isDone_66 (lv_at hl 0 rfl) ?_
      have hP : va_P K.1 vwCl (mw K h a (hrow M 0 (M 0))) H := hP
      have hD : va_D A (mw K h a (hrow M 0 (M 0))) := hD
      have eR13 : (M 0) = (mnT (M 0, R, P) (ch p) (ch (p + 1) - 48) (ch (p + 2) - 48) (ch (p + 3) - 48)).1 := by first | (simp [mnT, c_35, c_46]; done) | (simp [mnT, c_35, c_46]; intro z; omega) | (simp [mnT, c_35, c_46, hd1]; done) | (simp [mnT, c_35, c_46, hd1, hd2]; done) | (simp [mnT, c_35, c_46, hc121, hd1, hd2, hd3]; done) | (rcases (show ch p = 121 ∨ ch p = 97 by omega) with z | z <;> simp [mnT, c_35, c_46, z]; done)
      have hP : va_P K.1 vwCl (mw K h a (hrow M 0 (mnT (M 0, R, P) (ch p) (ch (p + 1) - 48) (ch (p + 2) - 48) (ch (p + 3) - 48)).1)) H := by rw [← eR13]; exact hP
      have hD : va_D A (mw K h a (hrow M 0 (mnT (M 0, R, P) (ch p) (ch (p + 1) - 48) (ch (p + 2) - 48) (ch (p + 3) - 48)).1)) := by rw [← eR13]; exact hD
      exact hend _ _ _ _ _ _ _ (by decide) (M 9, M 10) hP hD hS (Nat.le_of_ble_eq_true rfl) (Nat.le_of_ble_eq_true rfl) (by first | (simp [mnB, bI, c_35, c_46]; done) | (simp [mnB, bI, c_35, c_46]; omega) | (simp [mnB, bI, c_35, c_46, hc121]; done) | (rcases (show ch p = 121 ∨ ch p = 97 by omega) with z | z <;> simp [mnB, bI, c_35, c_46, z]; done)) dX6_isDone_68
    · skip
      refine lv_iconst (v := (1 : Int32)) hx hb dX6_isDone_49 (by decide) ?_
      refine lv_goto (tgt := 54) hx hb dX6_isDone_50 (by decide) ?_
      refine lv_istore (lv' := [(5, .int (1 : Int32)), (4, .int (M 11 ((4 * k) + 2))), (3, .int (M 11 ((4 * k) + 1))), (2, .int (nI (ch p))), (0, .ref h), (1, .int (nI k))]) hx hb dX6_isDone_54 hl (by decide) rfl (fun ls hl => ?_)
      refine lv_iload hx hb dX6_isDone_56 (lv_at hl 0 rfl) ?_
      refine lv_if_eq (tgt := 66) hx hb dX6_isDone_58 (by decide) (fun c_58 => ?_) (fun c_58 => ?_)
      · exact absurd c_58 (by decide)
      refine lv_aload_n hx hb dX6_isDone_61 rfl (lv_at hl 4 rfl) ?_
      refine lv_iload_n hx hb dX6_isDone_62 rfl (lv_at hl 2 rfl) ?_
      refine xw_Vv (As := [.int (M 11 ((4 * k) + 1))]) (rest := []) (wc := mw K h a M) (wr := (List.filterMap (fun i => (mw K h a M : va_W)[i]?) ([] : List Nat))) ⟨hx, hb, hml, hown, hts⟩ (c_X6_comes l K h a M (M 11 ((4 * k) + 1)) R hR0 (by omega) H.size) (cwV 1 hts gX6_isDone_X6_comes rfl rfl rfl (by decide +kernel) ⟨Nat.le_of_ble_eq_true rfl, Nat.le_of_ble_eq_true rfl⟩) hK hP hD hS hA [0, 1, 2, 3, 4, 5, 6, 7, 8, 9] [] [0, 1, 2, 3, 4, 5, 6, 7, 8, 9] rfl rfl rfl (fun _u => mw K h a (hrow M 0 (upd (upd (M 0) (12 + R) (M 11 ((4 * k) + 1))) 3 (M 0 3 + 1)))) (fun _ => rfl) 0 6 rfl rfl rfl rfl hl.1 rfl (Nat.le_of_ble_eq_true rfl) (Nat.le_of_ble_eq_true rfl) (Nat.le_of_ble_eq_true rfl) dX6_isDone_63 (fun _ H locs hq63 hP hD hS => ?_)
      have hP : va_P K.1 vwCl (mw K h a (hrow M 0 (upd (upd (M 0) (12 + R) (M 11 ((4 * k) + 1))) 3 (M 0 3 + 1)))) H := hP
      have hD : va_D A (mw K h a (hrow M 0 (upd (upd (M 0) (12 + R) (M 11 ((4 * k) + 1))) 3 (M 0 3 + 1)))) := hD
      refine lv_iload hx hb dX6_isDone_66 (lv_at hl 0 rfl) ?_
      have eR14 : (upd (upd (M 0) (12 + R) (M 11 ((4 * k) + 1))) 3 (M 0 3 + 1)) = (mnT (M 0, R, P) (ch p) (ch (p + 1) - 48) (ch (p + 2) - 48) (ch (p + 3) - 48)).1 := by first | (simp [mnT, c_35, c_46]; done) | (simp [mnT, c_35, c_46]; intro z; omega) | (simp [mnT, c_35, c_46, hd1]; done) | (simp [mnT, c_35, c_46, hd1, hd2]; done) | (simp [mnT, c_35, c_46, hc121, hd1, hd2, hd3]; done) | (rcases (show ch p = 121 ∨ ch p = 97 by omega) with z | z <;> simp [mnT, c_35, c_46, z]; done)
      rw [eR14] at hP hD
      exact hend _ _ _ _ _ _ _ (by decide) (M 9, M 10) hP hD hS (Nat.le_of_ble_eq_true rfl) (Nat.le_of_ble_eq_true rfl) (by first | (simp [mnB, bI, c_35, c_46]; done) | (simp [mnB, bI, c_35, c_46]; omega) | (simp [mnB, bI, c_35, c_46, hc121]; done) | (rcases (show ch p = 121 ∨ ch p = 97 by omega) with z | z <;> simp [mnB, bI, c_35, c_46, z]; done)) dX6_isDone_68

def mcT (ch : Nat → Nat) (X : (Nat → Int32) × Nat × Nat) : Nat → (Nat → Int32) × Nat × Nat | 0 => X | k + 1 => mnT (mcT ch X k) (ch (posC ch k)) (ch (posC ch k + 1) - 48) (ch (posC ch k + 2) - 48) (ch (posC ch k + 3) - 48)
def mcO (ch : Nat → Nat) (X : (Nat → Int32) × Nat × Nat) : Nat → Nat | 0 => 0 | k + 1 => if mnB (mcT ch X k) (ch (posC ch k)) (ch (posC ch k + 1) - 48) (ch (posC ch k + 2) - 48) = true then mcO ch X k else mcO ch X k + 1
abbrev mcI (X : (Nat → Int32) × Nat × Nat) : Prop := X.1 3 = nI X.2.1 ∧ X.2.1 ≤ 6 ∧ X.1 4 = nI X.2.2 ∧ X.2.2 ≤ 10
theorem mnT_ok {X : (Nat → Int32) × Nat × Nat} (h : mcI X) (c a b d : Nat) : mcI (mnT X c a b d) := by
  obtain ⟨S, R, P⟩ := X
  obtain ⟨h1, h2, h3, h4⟩ := h
  have h1 : S 3 = nI R := h1
  have h2 : R ≤ 6 := h2
  have h3 : S 4 = nI P := h3
  have h4 : P ≤ 10 := h4
  unfold mnT
  by_cases e1 : c = 97
  · rw [if_pos e1]
    exact ⟨mk_ite (mk_un (by omega) h1) h1, h2, mk_ite (mk_un (by omega) h3) h3, h4⟩
  rw [if_neg e1]
  by_cases e2 : c = 100
  · rw [if_pos e2]
    have q1 : mDk S a P 3 = nI R := km_dk (by decide) h1
    have q2 : mDk S a P 4 = nI P := km_dk (by decide) h3
    exact ⟨q1, h2, q2, h4⟩
  rw [if_neg e2]
  by_cases e3 : c = 102
  · rw [if_pos e3]
    exact ⟨mk_ite (mk_un (by omega) h1) h1, h2, mk_ite (mk_un (by omega) h3) h3, h4⟩
  rw [if_neg e3]
  by_cases e4 : c = 112
  · rw [if_pos e4]
    by_cases e : P < 10
    · simp only [if_pos e]
      have q1 : upd S 4 (S 4 + 1) 3 = nI R := mk_un (by decide) h1
      refine ⟨q1, h2, ?_, by show P + 1 ≤ 10; omega⟩
      show upd S 4 (S 4 + 1) 4 = nI (P + 1)
      rw [pk_us, h3, nI_1]
    · simp only [if_neg e]
      have q1 : upd S 4 (S 4 + 0) 3 = nI R := mk_un (by decide) h1
      refine ⟨q1, h2, ?_, h4⟩
      show upd S 4 (S 4 + 0) 4 = nI P
      rw [pk_us, h3]
      exact nI_add P 0
  rw [if_neg e4]
  by_cases e5 : c = 114
  · rw [if_pos e5]
    by_cases e : R < 6
    · simp only [if_pos e]
      have q1 : upd (upd S (12 + R) (nI a)) 3 (S 3 + 1) 4 = nI P := mk_un (by decide) (mk_un (by omega) h3)
      refine ⟨?_, by show R + 1 ≤ 6; omega, q1, h4⟩
      show upd (upd S (12 + R) (nI a)) 3 (S 3 + 1) 3 = nI (R + 1)
      rw [pk_us, h1, nI_1]
    · simp only [if_neg e]
      exact ⟨h1, h2, h3, h4⟩
  rw [if_neg e5]
  by_cases e6 : c = 121
  · rw [if_pos e6]
    exact ⟨mk_ite (mk_un (by omega) h1) h1, h2, mk_ite (mk_un (by omega) h3) h3, h4⟩
  rw [if_neg e6]
  exact ⟨mk_ite (km_play (by decide) h1) h1, h2, mk_ite (km_play (by decide) h3) h3, h4⟩
theorem mcT_ok {ch : Nat → Nat} {X : (Nat → Int32) × Nat × Nat} (h : mcI X) : ∀ k, mcI (mcT ch X k)
  | 0 => h
  | k + 1 => mnT_ok (mcT_ok h k) _ _ _ _
def ldP (ch : Nat → Nat) (L : Nat) (M : HV) (r : Int32) (U : HV) : Prop := U 8 0 = nI (kLoad ch L) ∧ U 2 = M 2 ∧ U 4 = M 4 ∧ U 6 = M 6 ∧ U 7 0 = M 7 0 ∧ (¬ ferF ch L = -1 → U 0 = M 0 ∧ U 3 0 = M 3 0 ∧ U 5 = M 5) ∧ (ferF ch L = -1 → U 3 0 = 0 ∧ U 5 0 = 0 ∧ U 5 1 = 0 ∧ ∃ n, L ≤ posC ch n ∧ (∀ j, j < n → posC ch j < L) ∧ r = nI (mcO ch (mEmp, 0, 0) n) ∧ U 0 = (mcT ch (mEmp, 0, 0) n).1)
abbrev mo0 (ch : Nat → Nat) (L : Nat) : Prop := ferF ch L = -1 → ∀ k, (∀ j, j < k → posC ch j < L) → mOK (mcT ch (mEmp, 0, 0) k).1 (mcT ch (mEmp, 0, 0) k).2.1 (mcT ch (mEmp, 0, 0) k).2.2

abbrev rm_X6_errorPosition : Room := { frames := 5, cells := 0, slots := 0, locals := 110 }
set_option maxHeartbeats 4000000 in
set_option maxRecDepth 100000 in
theorem c_X6_errorPosition (l : Launch) (K : KX) (h : Nat) (a : Nat → Nat) (M : HV) (L : Nat) (hL0 : M 7 0 = nI L) (hL0b : L ≤ 120) (ch : Nat → Nat) (htx : ∀ i, i < L → M 6 i = nI (ch i) ∧ ch i < 256) (sz : Nat) : Met l yX6_errorPosition wsX6_errorPosition rm_X6_errorPosition (va_Pc [.ref h] (xPre K (mw K h a M) sz)) (va_Qi (fun (r9 : Int32) (u9 : (Nat → Int32) × Nat × Nat) => r9 = ferF ch L) (fun u9 t => xPost K (va_A (mw K h a M) sz) (mw K h a (hput (hput (hput (hrow M 11 u9.1) 12 (nI u9.2.1)) 13 (nI u9.2.2)) 8 0)) t) (va_A (mw K h a M) sz)) 0 0 (va_A (mw K h a M) sz) := by
  refine xw_starti (cc := cX6_errorPosition) (maxL := 1) (by decide) rfl (Nat.le_of_ble_eq_true rfl) ?_
  intro p9 e9 s9 m9 below9 meth9 c9 H locs ls A av9 Q9 hx hb hlocks hml hname hts hown hK hP hD hS hA hsz hend hl
  have hown : s9.vm.findClass RX6 = some m9.cls := hown
  have hl : lv_has ls 1 [(0, .ref h)] := hl
  have hi6 : ∀ w ∈ u_ws RX6 TX6 14, w ∈ wsX6_errorPosition := by decide +kernel
  have lk42 := hts (.fieldLink RX6 42 "StandInsModel" "thrown" "I") (by decide +kernel)
  have lk100 := hts (.fieldLink RX6 100 "StandInsModel" "at" "I") (by decide +kernel)
  refine lv_aload_n hx hb dX6_errorPosition_0 rfl (lv_at hl 0 rfl) ?_
  refine lv_iconst (v := (0 : Int32)) hx hb dX6_errorPosition_1 (by decide) ?_
  refine va_put (ci := 6) (v := .int (0 : Int32)) (ty := .int) (C := RX6) (T := TX6) (N := 14) hx hb hts hi6 tyX6 tyX6_ok nmX6 hown hK hP hD hS 0 rfl rfl 8 (by decide) lk42 (fun _ h9 => h9) rfl (by decide +kernel) rfl rfl (Nat.le_of_ble_eq_true rfl) dX6_errorPosition_2 (fun H locs hP hD hS => ?_)
  have hP : va_P K.1 vwCl (mw K h a (hput M 8 (0 : Int32))) H := hP
  have hD : va_D A (mw K h a (hput M 8 (0 : Int32))) := hD
  refine lv_aload_n hx hb dX6_errorPosition_5 rfl (lv_at hl 0 rfl) ?_
  refine xw_Vi (As := []) (rest := []) (wc := mw K h a (hput M 8 (0 : Int32))) (wr := (List.filterMap (fun i => (mw K h a (hput M 8 (0 : Int32)) : va_W)[i]?) ([] : List Nat))) ⟨hx, hb, hml, hown, hts⟩ (c_X6_isHouse l K h a (hput M 8 (0 : Int32)) L hL0 (by omega) ch (by first | assumption | omega) H.size) (cwV 0 hts gX6_errorPosition_X6_isHouse rfl rfl rfl (by decide +kernel) ⟨Nat.le_of_ble_eq_true rfl, Nat.le_of_ble_eq_true rfl⟩) hK hP hD hS hA [0, 1, 2, 3, 4, 5, 6, 7, 8, 9] [] [0, 1, 2, 3, 4, 5, 6, 7, 8, 9] rfl rfl rfl (fun D6 => mw K h a (hput (hput (hrow (hput M 8 (0 : Int32)) 11 D6.1) 12 (nI D6.2.1)) 13 (nI D6.2.2))) (fun _ => rfl) 0 6 rfl rfl rfl rfl hl.1 rfl (Nat.le_of_ble_eq_true rfl) (Nat.le_of_ble_eq_true rfl) (Nat.le_of_ble_eq_true rfl) dX6_errorPosition_6 (fun r6 D6 H locs hq6 hP hD hS => ?_)
  have hP : va_P K.1 vwCl (mw K h a (hput (hput (hrow (hput M 8 (0 : Int32)) 11 D6.1) 12 (nI D6.2.1)) 13 (nI D6.2.2))) H := hP
  have hD : va_D A (mw K h a (hput (hput (hrow (hput M 8 (0 : Int32)) 11 D6.1) 12 (nI D6.2.1)) 13 (nI D6.2.2))) := hD
  refine lv_if_eq (tgt := 16) hx hb dX6_errorPosition_9 (by decide) (fun c_9 => ?_) (fun c_9 => ?_)
  · skip
    refine lv_aload_n hx hb dX6_errorPosition_16 rfl (lv_at hl 0 rfl) ?_
    refine va_get (ci := 6) (v := .int (nI D6.2.2)) (C := RX6) (T := TX6) (N := 14) hx hb hts hi6 hown hK hP 0 rfl rfl 13 (by decide) lk100 (fun _ h9 => h9) rfl dX6_errorPosition_17 ?_
    have eR1 : (0 : Int32) = 0 := by rfl
    rw [eR1] at hP hD
    exact hend _ _ _ _ _ _ _ D6 hP hD hS (Nat.le_of_ble_eq_true rfl) (Nat.le_of_ble_eq_true rfl) (by first | exact (bI_ne1 hq6.1 c_9).symm | exact hq6.2.2.1 (bI_eq1 hq6.1 c_9)) dX6_errorPosition_20
  · skip
    refine lv_iconst (v := (-1 : Int32)) hx hb dX6_errorPosition_12 (by decide) ?_
    refine lv_goto (tgt := 20) hx hb dX6_errorPosition_13 (by decide) ?_
    have eR2 : (0 : Int32) = 0 := by rfl
    rw [eR2] at hP hD
    exact hend _ _ _ _ _ _ _ D6 hP hD hS (Nat.le_of_ble_eq_true rfl) (Nat.le_of_ble_eq_true rfl) (by first | exact (bI_ne1 hq6.1 c_9).symm | exact hq6.2.2.1 (bI_eq1 hq6.1 c_9)) dX6_errorPosition_20

abbrev rm_X6_load : Room := { frames := 6, cells := 0, slots := 0, locals := 148 }
set_option maxHeartbeats 4000000 in
set_option maxRecDepth 100000 in
theorem c_X6_load (l : Launch) (K : KX) (h : Nat) (a : Nat → Nat) (M : HV) (L : Nat) (hL0 : M 7 0 = nI L) (hL0b : L ≤ 120) (ch : Nat → Nat) (htx : ∀ i, i < L → M 6 i = nI (ch i) ∧ ch i < 256) (hmo : mo0 ch L) (sz : Nat) : Met l yX6_load wsX6_load rm_X6_load (va_Pc [.ref h] (xPre K (mw K h a M) sz)) (va_Qi (fun (r9 : Int32) (u9 : HV) => ldP ch L M r9 u9) (fun u9 t => xPost K (va_A (mw K h a M) sz) (mw K h a u9) t) (va_A (mw K h a M) sz)) 0 0 (va_A (mw K h a M) sz) := by
  refine xw_starti (cc := cX6_load) (maxL := 3) (by decide) rfl (Nat.le_of_ble_eq_true rfl) ?_
  intro p9 e9 s9 m9 below9 meth9 c9 H locs ls A av9 Q9 hx hb hlocks hml hname hts hown hK hP hD hS hA hsz hend hl
  have hown : s9.vm.findClass RX6 = some m9.cls := hown
  have hl : lv_has ls 3 [(0, .ref h)] := hl
  have hi6 : ∀ w ∈ u_ws RX6 TX6 14, w ∈ wsX6_load := by decide +kernel
  have lk42 := hts (.fieldLink RX6 42 "StandInsModel" "thrown" "I") (by decide +kernel)
  have lk7 := hts (.fieldLink RX6 7 "StandInsModel" "now" "[I") (by decide +kernel)
  have lk50 := hts (.fieldLink RX6 50 "StandInsModel" "kept" "I") (by decide +kernel)
  have lk22 := hts (.fieldLink RX6 22 "StandInsModel" "held" "[Z") (by decide +kernel)
  have lk107 := hts (.fieldLink RX6 107 "StandInsModel" "tolds" "I") (by decide +kernel)
  refine lv_aload_n hx hb dX6_load_0 rfl (lv_at hl 0 rfl) ?_
  refine lv_iconst (v := (0 : Int32)) hx hb dX6_load_1 (by decide) ?_
  refine va_put (ci := 6) (v := .int (0 : Int32)) (ty := .int) (C := RX6) (T := TX6) (N := 14) hx hb hts hi6 tyX6 tyX6_ok nmX6 hown hK hP hD hS 0 rfl rfl 8 (by decide) lk42 (fun _ h9 => h9) rfl (by decide +kernel) rfl rfl (Nat.le_of_ble_eq_true rfl) dX6_load_2 (fun H locs hP hD hS => ?_)
  have hP : va_P K.1 vwCl (mw K h a (hput M 8 (0 : Int32))) H := hP
  have hD : va_D A (mw K h a (hput M 8 (0 : Int32))) := hD
  refine lv_aload_n hx hb dX6_load_5 rfl (lv_at hl 0 rfl) ?_
  refine xw_Vi (As := []) (rest := []) (wc := mw K h a (hput M 8 (0 : Int32))) (wr := (List.filterMap (fun i => (mw K h a (hput M 8 (0 : Int32)) : va_W)[i]?) ([] : List Nat))) ⟨hx, hb, hml, hown, hts⟩ (c_X6_isHouse l K h a (hput M 8 (0 : Int32)) L hL0 (by omega) ch (by first | assumption | omega) H.size) (cwV 0 hts gX6_load_X6_isHouse rfl rfl rfl (by decide +kernel) ⟨Nat.le_of_ble_eq_true rfl, Nat.le_of_ble_eq_true rfl⟩) hK hP hD hS hA [0, 1, 2, 3, 4, 5, 6, 7, 8, 9] [] [0, 1, 2, 3, 4, 5, 6, 7, 8, 9] rfl rfl rfl (fun D6 => mw K h a (hput (hput (hrow (hput M 8 (0 : Int32)) 11 D6.1) 12 (nI D6.2.1)) 13 (nI D6.2.2))) (fun _ => rfl) 0 6 rfl rfl rfl rfl hl.1 rfl (Nat.le_of_ble_eq_true rfl) (Nat.le_of_ble_eq_true rfl) (Nat.le_of_ble_eq_true rfl) dX6_load_6 (fun r6 D6 H locs hq6 hP hD hS => ?_)
  have hP : va_P K.1 vwCl (mw K h a (hput (hput (hrow (hput M 8 (0 : Int32)) 11 D6.1) 12 (nI D6.2.1)) 13 (nI D6.2.2))) H := hP
  have hD : va_D A (mw K h a (hput (hput (hrow (hput M 8 (0 : Int32)) 11 D6.1) 12 (nI D6.2.1)) 13 (nI D6.2.2))) := hD
  refine lv_if_ne (tgt := 18) hx hb dX6_load_9 (by decide) (fun c_9 => ?_) (fun c_9 => ?_)
  · skip
    have hfe := bI_ne1 hq6.1 c_9
    obtain ⟨hL1, hL2, hL3⟩ := hq6.2.1 hfe
    have hn119 := hq6.2.2.2
    refine lv_aload_n hx hb dX6_load_18 rfl (lv_at hl 0 rfl) ?_
    refine va_get (ci := 6) (v := .ref (a 0)) (C := RX6) (T := TX6) (N := 14) hx hb hts hi6 hown hK hP 0 rfl rfl 0 (by decide) lk7 (fun _ h9 => h9) rfl dX6_load_19 ?_
    refine xw_Sv (As := [.ref (a 0)]) (rest := []) (wc := [((a 0), aI K 190 (M 0))]) (wr := (List.filterMap (fun i => (mw K h a (hput (hput (hrow (hput M 8 (0 : Int32)) 11 D6.1) 12 (nI D6.2.1)) 13 (nI D6.2.2)) : va_W)[i]?) ([0, 2, 3, 4, 5, 6, 7, 8, 9] : List Nat))) ⟨hx, hb, hml, hown, hts⟩ (c_X6_begins l K (a 0) (M 0) H.size) (va_cwS 1 hts gX6_load_X6_begins rfl rfl rfl (by decide +kernel) ⟨Nat.le_of_ble_eq_true rfl, Nat.le_of_ble_eq_true rfl⟩) hK hP hD hS hA [1] [0, 2, 3, 4, 5, 6, 7, 8, 9] [0, 9, 1, 2, 3, 4, 5, 6, 7, 8] rfl rfl rfl (fun _u => mw K h a (hput (hput (hrow (hput (hrow M 0 mEmp) 8 (0 : Int32)) 11 D6.1) 12 (nI D6.2.1)) 13 (nI D6.2.2))) (fun _ => rfl) rfl hl.1 rfl (Nat.le_of_ble_eq_true rfl) (Nat.le_of_ble_eq_true rfl) (Nat.le_of_ble_eq_true rfl) dX6_load_22 (fun _ H locs hq22 hP hD hS => ?_)
    have hP : va_P K.1 vwCl (mw K h a (hput (hput (hrow (hput (hrow M 0 mEmp) 8 (0 : Int32)) 11 D6.1) 12 (nI D6.2.1)) 13 (nI D6.2.2))) H := hP
    have hD : va_D A (mw K h a (hput (hput (hrow (hput (hrow M 0 mEmp) 8 (0 : Int32)) 11 D6.1) 12 (nI D6.2.1)) 13 (nI D6.2.2))) := hD
    refine lv_aload_n hx hb dX6_load_25 rfl (lv_at hl 0 rfl) ?_
    refine lv_iconst (v := (0 : Int32)) hx hb dX6_load_26 (by decide) ?_
    refine va_put (ci := 6) (v := .int (0 : Int32)) (ty := .int) (C := RX6) (T := TX6) (N := 14) hx hb hts hi6 tyX6 tyX6_ok nmX6 hown hK hP hD hS 0 rfl rfl 3 (by decide) lk50 (fun _ h9 => h9) rfl (by decide +kernel) rfl rfl (Nat.le_of_ble_eq_true rfl) dX6_load_27 (fun H locs hP hD hS => ?_)
    have hP : va_P K.1 vwCl (mw K h a (hput (hput (hrow (hput (hput (hrow M 0 mEmp) 3 (0 : Int32)) 8 (0 : Int32)) 11 D6.1) 12 (nI D6.2.1)) 13 (nI D6.2.2))) H := hP
    have hD : va_D A (mw K h a (hput (hput (hrow (hput (hput (hrow M 0 mEmp) 3 (0 : Int32)) 8 (0 : Int32)) 11 D6.1) 12 (nI D6.2.1)) 13 (nI D6.2.2))) := hD
    refine lv_aload_n hx hb dX6_load_30 rfl (lv_at hl 0 rfl) ?_
    refine va_get (ci := 6) (v := .ref (a 5)) (C := RX6) (T := TX6) (N := 14) hx hb hts hi6 hown hK hP 0 rfl rfl 5 (by decide) lk22 (fun _ h9 => h9) rfl dX6_load_31 ?_
    refine lv_iconst (v := (0 : Int32)) hx hb dX6_load_34 (by decide) ?_
    refine lv_iconst (v := (0 : Int32)) hx hb dX6_load_35 (by decide) ?_
    refine xz_st hx hb hK hP hD hS 5 (f := M 5) rfl 0 rfl (by omega) (by decide) rfl (mw K h a (hput (hput (hrow (hput (hrow (hput (hrow M 0 mEmp) 3 (0 : Int32)) 5 (upd (M 5) 0 (0 : Int32))) 8 (0 : Int32)) 11 D6.1) 12 (nI D6.2.1)) 13 (nI D6.2.2))) rfl dX6_load_36 (fun H locs hP hD hS => ?_)
    refine lv_aload_n hx hb dX6_load_37 rfl (lv_at hl 0 rfl) ?_
    refine va_get (ci := 6) (v := .ref (a 5)) (C := RX6) (T := TX6) (N := 14) hx hb hts hi6 hown hK hP 0 rfl rfl 5 (by decide) lk22 (fun _ h9 => h9) rfl dX6_load_38 ?_
    refine lv_iconst (v := (1 : Int32)) hx hb dX6_load_41 (by decide) ?_
    refine lv_iconst (v := (0 : Int32)) hx hb dX6_load_42 (by decide) ?_
    refine xz_st hx hb hK hP hD hS 5 (f := (upd (M 5) 0 (0 : Int32))) rfl 1 rfl (by omega) (by decide) rfl (mw K h a (hput (hput (hrow (hput (hrow (hput (hrow M 0 mEmp) 3 (0 : Int32)) 5 (upd (upd (M 5) 0 (0 : Int32)) 1 (0 : Int32))) 8 (0 : Int32)) 11 D6.1) 12 (nI D6.2.1)) 13 (nI D6.2.2))) rfl dX6_load_43 (fun H locs hP hD hS => ?_)
    refine lv_iconst (v := (0 : Int32)) hx hb dX6_load_44 (by decide) ?_
    refine lv_istore_n (lv' := [(1, .int (0 : Int32)), (0, .ref h)]) hx hb dX6_load_45 rfl hl (by decide) rfl (fun ls hl => ?_)
    refine lv_iconst (v := (0 : Int32)) hx hb dX6_load_46 (by decide) ?_
    refine lv_istore_n (lv' := [(2, .int (0 : Int32)), (1, .int (0 : Int32)), (0, .ref h)]) hx hb dX6_load_47 rfl hl (by decide) rfl (fun ls hl => ?_)
    have lp48 : ∀ (n9 : Nat) (k : Nat) (E : Nat → Int32) (F : Nat → Int32) (H : Heap) (locs : List Loc) (ls : Array Slot), D6.2.1 - k < n9 → (k ≤ D6.2.1) → va_P K.1 vwCl (mw K h a (hput (hput (hrow (hrow (hrow (hput (hrow (hput (hrow M 0 (mcT ch (mEmp, 0, 0) k).1) 3 (0 : Int32)) 5 (upd (upd (M 5) 0 (0 : Int32)) 1 (0 : Int32))) 8 (0 : Int32)) 9 E) 10 F) 11 D6.1) 12 (nI D6.2.1)) 13 (nI D6.2.2))) H → va_D A (mw K h a (hput (hput (hrow (hrow (hrow (hput (hrow (hput (hrow M 0 (mcT ch (mEmp, 0, 0) k).1) 3 (0 : Int32)) 5 (upd (upd (M 5) 0 (0 : Int32)) 1 (0 : Int32))) 8 (0 : Int32)) 9 E) 10 F) 11 D6.1) 12 (nI D6.2.1)) 13 (nI D6.2.2))) → va_S A s9.heap H locs → lv_has ls 3 [(0, .ref h), (1, .int (nI (mcO ch (mEmp, 0, 0) k))), (2, .int (nI k))] → W p9 l e9 rm_X6_load s9 m9 av9 below9 meth9 c9 H locs 0 0 Q9 (F0 m9 48 ls []) := by
      intro n9
      induction n9 with
      | zero => intro k E F H locs ls hmu hk hP hD hS hl; exact absurd hmu (Nat.not_lt_zero _)
      | succ n9 ih48 =>
        intro k E F H locs ls hmu hk hP hD hS hl
        have hI := mcT_ok (ch := ch) (X := (mEmp, 0, 0)) ⟨rfl, by decide, rfl, by decide⟩ k
        refine lv_iload_n hx hb dX6_load_48 rfl (lv_at hl 2 rfl) ?_
        refine lv_aload_n hx hb dX6_load_49 rfl (lv_at hl 0 rfl) ?_
        refine va_get (ci := 6) (v := .int (nI D6.2.1)) (C := RX6) (T := TX6) (N := 14) hx hb hts hi6 hown hK hP 0 rfl rfl 12 (by decide) lk107 (fun _ h9 => h9) rfl dX6_load_50 ?_
        refine xn_icmp_ge (tgt := 78) hx hb k D6.2.1 rfl rfl (by omega) (by omega) dX6_load_53 (by decide) (fun c_53 => ?_) (fun c_53 => ?_)
        · skip
          have hkn : k = D6.2.1 := by omega
          refine lv_iload_n hx hb dX6_load_78 rfl (lv_at hl 1 rfl) ?_
          exact hend _ _ _ _ _ _ _ (hput (hput (hrow (hrow (hrow (hput (hrow (hput (hrow M 0 (mcT ch (mEmp, 0, 0) k).1) 3 (0 : Int32)) 5 (upd (upd (M 5) 0 (0 : Int32)) 1 (0 : Int32))) 8 (0 : Int32)) 9 E) 10 F) 11 D6.1) 12 (nI D6.2.1)) 13 (nI D6.2.2)) hP hD hS (Nat.le_of_ble_eq_true rfl) (Nat.le_of_ble_eq_true rfl) (by exact ⟨congrArg nI (if_pos hfe).symm, rfl, rfl, rfl, rfl, fun z => absurd hfe z, fun _ => ⟨rfl, by rw [show (1 : Nat) = 1 from rfl]; rfl, rfl, D6.2.1, hL1, hL2, by rw [hkn], by rw [hkn]; rfl⟩⟩) dX6_load_79
        · skip
          have hko := fer_ok hL0b hfe k (hL2 k c_53)
          have hpl := hL2 k c_53
          refine lv_iload_n hx hb dX6_load_56 rfl (lv_at hl 1 rfl) ?_
          refine lv_aload_n hx hb dX6_load_57 rfl (lv_at hl 0 rfl) ?_
          refine lv_iload_n hx hb dX6_load_58 rfl (lv_at hl 2 rfl) ?_
          refine xw_Vi (As := [.int (nI k)]) (rest := [.int (nI (mcO ch (mEmp, 0, 0) k))]) (wc := mw K h a (hput (hput (hrow (hrow (hrow (hput (hrow (hput (hrow M 0 (mcT ch (mEmp, 0, 0) k).1) 3 (0 : Int32)) 5 (upd (upd (M 5) 0 (0 : Int32)) 1 (0 : Int32))) 8 (0 : Int32)) 9 E) 10 F) 11 D6.1) 12 (nI D6.2.1)) 13 (nI D6.2.2))) (wr := (List.filterMap (fun i => (mw K h a (hput (hput (hrow (hrow (hrow (hput (hrow (hput (hrow M 0 (mcT ch (mEmp, 0, 0) k).1) 3 (0 : Int32)) 5 (upd (upd (M 5) 0 (0 : Int32)) 1 (0 : Int32))) 8 (0 : Int32)) 9 E) 10 F) 11 D6.1) 12 (nI D6.2.1)) 13 (nI D6.2.2)) : va_W)[i]?) ([] : List Nat))) ⟨hx, hb, hml, hown, hts⟩ (c_X6_isDone l K h a (hput (hput (hrow (hrow (hrow (hput (hrow (hput (hrow M 0 (mcT ch (mEmp, 0, 0) k).1) 3 (0 : Int32)) 5 (upd (upd (M 5) 0 (0 : Int32)) 1 (0 : Int32))) 8 (0 : Int32)) 9 E) 10 F) 11 D6.1) 12 (nI D6.2.1)) 13 (nI D6.2.2)) k (by omega) L ch (posC ch k) (hL3 k c_53).1 (hL3 k c_53).2 hko (htx (posC ch k) hpl).2 (mcT ch (mEmp, 0, 0) k).2.1 hI.1 (by omega) (mcT ch (mEmp, 0, 0) k).2.2 hI.2.2.1 (by omega) (hmo hfe k (fun j hj => hL2 j (by omega))) H.size) (cwV 1 hts gX6_load_X6_isDone rfl rfl rfl (by decide +kernel) ⟨Nat.le_of_ble_eq_true rfl, Nat.le_of_ble_eq_true rfl⟩) hK hP hD hS hA [0, 1, 2, 3, 4, 5, 6, 7, 8, 9] [] [0, 1, 2, 3, 4, 5, 6, 7, 8, 9] rfl rfl rfl (fun D59 => mw K h a (hput (hput (hrow (hrow (hrow (hput (hrow (hput (hrow M 0 (mnT (((mcT ch (mEmp, 0, 0) k).1), (mcT ch (mEmp, 0, 0) k).2.1, (mcT ch (mEmp, 0, 0) k).2.2) (ch (posC ch k)) (ch ((posC ch k) + 1) - 48) (ch ((posC ch k) + 2) - 48) (ch ((posC ch k) + 3) - 48)).1) 3 (0 : Int32)) 5 (upd (upd (M 5) 0 (0 : Int32)) 1 (0 : Int32))) 8 (0 : Int32)) 9 D59.1) 10 D59.2) 11 D6.1) 12 (nI D6.2.1)) 13 (nI D6.2.2))) (fun _ => rfl) 0 6 rfl rfl rfl rfl hl.1 rfl (Nat.le_of_ble_eq_true rfl) (Nat.le_of_ble_eq_true rfl) (Nat.le_of_ble_eq_true rfl) dX6_load_59 (fun r59 D59 H locs hq59 hP hD hS => ?_)
          have hP : va_P K.1 vwCl (mw K h a (hput (hput (hrow (hrow (hrow (hput (hrow (hput (hrow M 0 (mnT (((mcT ch (mEmp, 0, 0) k).1), (mcT ch (mEmp, 0, 0) k).2.1, (mcT ch (mEmp, 0, 0) k).2.2) (ch (posC ch k)) (ch ((posC ch k) + 1) - 48) (ch ((posC ch k) + 2) - 48) (ch ((posC ch k) + 3) - 48)).1) 3 (0 : Int32)) 5 (upd (upd (M 5) 0 (0 : Int32)) 1 (0 : Int32))) 8 (0 : Int32)) 9 D59.1) 10 D59.2) 11 D6.1) 12 (nI D6.2.1)) 13 (nI D6.2.2))) H := hP
          have hD : va_D A (mw K h a (hput (hput (hrow (hrow (hrow (hput (hrow (hput (hrow M 0 (mnT (((mcT ch (mEmp, 0, 0) k).1), (mcT ch (mEmp, 0, 0) k).2.1, (mcT ch (mEmp, 0, 0) k).2.2) (ch (posC ch k)) (ch ((posC ch k) + 1) - 48) (ch ((posC ch k) + 2) - 48) (ch ((posC ch k) + 3) - 48)).1) 3 (0 : Int32)) 5 (upd (upd (M 5) 0 (0 : Int32)) 1 (0 : Int32))) 8 (0 : Int32)) 9 D59.1) 10 D59.2) 11 D6.1) 12 (nI D6.2.1)) 13 (nI D6.2.2))) := hD
          subst hq59
          refine xb_if_eq (tgt := 69) hx hb dX6_load_62 (by decide) (fun c_62 => ?_) (fun c_62 => ?_)
          · skip
            have c9n : ¬ mnB (mcT ch (mEmp, 0, 0) k) (ch (posC ch k)) (ch (posC ch k + 1) - 48) (ch (posC ch k + 2) - 48) = true := c_62
            refine lv_iconst (v := (1 : Int32)) hx hb dX6_load_69 (by decide) ?_
            refine lv_iadd hx hb dX6_load_70 ?_
            refine lv_istore_n (lv' := [(1, .int ((nI (mcO ch (mEmp, 0, 0) k)) + (1 : Int32))), (0, .ref h), (2, .int (nI k))]) hx hb dX6_load_71 rfl hl (by decide) rfl (fun ls hl => ?_)
            refine lv_iinc (v := nI (k + 1)) (lv' := [(2, .int (nI (k + 1))), (1, .int ((nI (mcO ch (mEmp, 0, 0) k)) + (1 : Int32))), (0, .ref h)]) hx hb dX6_load_72 hl (k := 2) rfl (nI_1 _) (by decide) rfl (fun ls hl => ?_)
            refine lv_goto (tgt := 48) hx hb dX6_load_75 (by decide) ?_
            have eR1 : ((mnT (((mcT ch (mEmp, 0, 0) k).1), (mcT ch (mEmp, 0, 0) k).2.1, (mcT ch (mEmp, 0, 0) k).2.2) (ch (posC ch k)) (ch ((posC ch k) + 1) - 48) (ch ((posC ch k) + 2) - 48) (ch ((posC ch k) + 3) - 48)).1) = (mcT ch (mEmp, 0, 0) (k + 1)).1 := by rfl
            rw [eR1] at hP hD
            have hP : va_P K.1 vwCl (mw K h a (hput (hput (hrow (hrow (hrow (hput (hrow (hput (hrow M 0 (mcT ch (mEmp, 0, 0) (k + 1)).1) 3 (0 : Int32)) 5 (upd (upd (M 5) 0 (0 : Int32)) 1 (0 : Int32))) 8 (0 : Int32)) 9 D59.1) 10 D59.2) 11 D6.1) 12 (nI D6.2.1)) 13 (nI D6.2.2))) H := hP
            have hD : va_D A (mw K h a (hput (hput (hrow (hrow (hrow (hput (hrow (hput (hrow M 0 (mcT ch (mEmp, 0, 0) (k + 1)).1) 3 (0 : Int32)) 5 (upd (upd (M 5) 0 (0 : Int32)) 1 (0 : Int32))) 8 (0 : Int32)) 9 D59.1) 10 D59.2) 11 D6.1) 12 (nI D6.2.1)) 13 (nI D6.2.2))) := hD
            exact ih48 (k + 1) D59.1 D59.2 _ _ _ (by omega) (by first | omega | assumption | first | rfl | (simp [c_9, c_53, c_62]; done) | omega) hP hD hS (lv_cons (lv_at hl 2 rfl) (lv_cons (lv_is (lv_at hl 1 rfl) (show (nI (mcO ch (mEmp, 0, 0) k)) + (1 : Int32) = nI (mcO ch (mEmp, 0, 0) (k + 1)) by (rw [mcO]; first | (rw [if_pos c9y]; exact Int32.add_zero _) | (rw [if_neg c9n]; exact nI_1 _)))) (lv_cons (lv_at hl 0 rfl) (lv_nil hl))))
          · skip
            have c9y : mnB (mcT ch (mEmp, 0, 0) k) (ch (posC ch k)) (ch (posC ch k + 1) - 48) (ch (posC ch k + 2) - 48) = true := c_62
            refine lv_iconst (v := (0 : Int32)) hx hb dX6_load_65 (by decide) ?_
            refine lv_goto (tgt := 70) hx hb dX6_load_66 (by decide) ?_
            refine lv_iadd hx hb dX6_load_70 ?_
            refine lv_istore_n (lv' := [(1, .int ((nI (mcO ch (mEmp, 0, 0) k)) + (0 : Int32))), (0, .ref h), (2, .int (nI k))]) hx hb dX6_load_71 rfl hl (by decide) rfl (fun ls hl => ?_)
            refine lv_iinc (v := nI (k + 1)) (lv' := [(2, .int (nI (k + 1))), (1, .int ((nI (mcO ch (mEmp, 0, 0) k)) + (0 : Int32))), (0, .ref h)]) hx hb dX6_load_72 hl (k := 2) rfl (nI_1 _) (by decide) rfl (fun ls hl => ?_)
            refine lv_goto (tgt := 48) hx hb dX6_load_75 (by decide) ?_
            have eR2 : ((mnT (((mcT ch (mEmp, 0, 0) k).1), (mcT ch (mEmp, 0, 0) k).2.1, (mcT ch (mEmp, 0, 0) k).2.2) (ch (posC ch k)) (ch ((posC ch k) + 1) - 48) (ch ((posC ch k) + 2) - 48) (ch ((posC ch k) + 3) - 48)).1) = (mcT ch (mEmp, 0, 0) (k + 1)).1 := by rfl
            rw [eR2] at hP hD
            have hP : va_P K.1 vwCl (mw K h a (hput (hput (hrow (hrow (hrow (hput (hrow (hput (hrow M 0 (mcT ch (mEmp, 0, 0) (k + 1)).1) 3 (0 : Int32)) 5 (upd (upd (M 5) 0 (0 : Int32)) 1 (0 : Int32))) 8 (0 : Int32)) 9 D59.1) 10 D59.2) 11 D6.1) 12 (nI D6.2.1)) 13 (nI D6.2.2))) H := hP
            have hD : va_D A (mw K h a (hput (hput (hrow (hrow (hrow (hput (hrow (hput (hrow M 0 (mcT ch (mEmp, 0, 0) (k + 1)).1) 3 (0 : Int32)) 5 (upd (upd (M 5) 0 (0 : Int32)) 1 (0 : Int32))) 8 (0 : Int32)) 9 D59.1) 10 D59.2) 11 D6.1) 12 (nI D6.2.1)) 13 (nI D6.2.2))) := hD
            exact ih48 (k + 1) D59.1 D59.2 _ _ _ (by omega) (by first | omega | assumption | first | rfl | (simp [c_9, c_53, c_62]; done) | omega) hP hD hS (lv_cons (lv_at hl 2 rfl) (lv_cons (lv_is (lv_at hl 1 rfl) (show (nI (mcO ch (mEmp, 0, 0) k)) + (0 : Int32) = nI (mcO ch (mEmp, 0, 0) (k + 1)) by (rw [mcO]; first | (rw [if_pos c9y]; exact Int32.add_zero _) | (rw [if_neg c9n]; exact nI_1 _)))) (lv_cons (lv_at hl 0 rfl) (lv_nil hl))))
    have eR3 : (mEmp) = (mcT ch (mEmp, 0, 0) 0).1 := by rfl
    have hP : va_P K.1 vwCl (mw K h a (hput (hput (hrow (hput (hrow (hput (hrow M 0 (mcT ch (mEmp, 0, 0) 0).1) 3 (0 : Int32)) 5 (upd (upd (M 5) 0 (0 : Int32)) 1 (0 : Int32))) 8 (0 : Int32)) 11 D6.1) 12 (nI D6.2.1)) 13 (nI D6.2.2))) H := by rw [← eR3]; exact hP
    have hD : va_D A (mw K h a (hput (hput (hrow (hput (hrow (hput (hrow M 0 (mcT ch (mEmp, 0, 0) 0).1) 3 (0 : Int32)) 5 (upd (upd (M 5) 0 (0 : Int32)) 1 (0 : Int32))) 8 (0 : Int32)) 11 D6.1) 12 (nI D6.2.1)) 13 (nI D6.2.2))) := by rw [← eR3]; exact hD
    have hP : va_P K.1 vwCl (mw K h a (hput (hput (hrow (hrow (hrow (hput (hrow (hput (hrow M 0 (mcT ch (mEmp, 0, 0) 0).1) 3 (0 : Int32)) 5 (upd (upd (M 5) 0 (0 : Int32)) 1 (0 : Int32))) 8 (0 : Int32)) 9 (M 9)) 10 (M 10)) 11 D6.1) 12 (nI D6.2.1)) 13 (nI D6.2.2))) H := hP
    have hD : va_D A (mw K h a (hput (hput (hrow (hrow (hrow (hput (hrow (hput (hrow M 0 (mcT ch (mEmp, 0, 0) 0).1) 3 (0 : Int32)) 5 (upd (upd (M 5) 0 (0 : Int32)) 1 (0 : Int32))) 8 (0 : Int32)) 9 (M 9)) 10 (M 10)) 11 D6.1) 12 (nI D6.2.1)) 13 (nI D6.2.2))) := hD
    exact lp48 _ 0 (M 9) (M 10) _ _ _ (Nat.lt_succ_self _) (by first | omega | assumption | first | rfl | (simp [c_9]; done) | omega) hP hD hS (lv_cons (lv_at hl 2 rfl) (lv_cons (lv_is (lv_at hl 1 rfl) (show (0 : Int32) = nI (mcO ch (mEmp, 0, 0) 0) by rfl)) (lv_cons (lv_is (lv_at hl 0 rfl) (show (0 : Int32) = nI 0 by rfl)) (lv_nil hl))))
  · skip
    have hfe := bI_eq1 hq6.1 c_9
    refine lv_aload_n hx hb dX6_load_12 rfl (lv_at hl 0 rfl) ?_
    refine lv_iconst (v := (1 : Int32)) hx hb dX6_load_13 (by decide) ?_
    refine xw_Vi (As := [.int (1 : Int32)]) (rest := []) (wc := mw K h a (hput (hput (hrow (hput M 8 (0 : Int32)) 11 D6.1) 12 (nI D6.2.1)) 13 (nI D6.2.2))) (wr := (List.filterMap (fun i => (mw K h a (hput (hput (hrow (hput M 8 (0 : Int32)) 11 D6.1) 12 (nI D6.2.1)) 13 (nI D6.2.2)) : va_W)[i]?) ([] : List Nat))) ⟨hx, hb, hml, hown, hts⟩ (c_X6_fails l K h a (hput (hput (hrow (hput M 8 (0 : Int32)) 11 D6.1) 12 (nI D6.2.1)) 13 (nI D6.2.2)) (1 : Int32) H.size) (cwV 1 hts gX6_load_X6_fails rfl rfl rfl (by decide +kernel) ⟨Nat.le_of_ble_eq_true rfl, Nat.le_of_ble_eq_true rfl⟩) hK hP hD hS hA [0, 1, 2, 3, 4, 5, 6, 7, 8, 9] [] [0, 1, 2, 3, 4, 5, 6, 7, 8, 9] rfl rfl rfl (fun _u => mw K h a (hput (hput (hrow (hput M 8 (1 : Int32)) 11 D6.1) 12 (nI D6.2.1)) 13 (nI D6.2.2))) (fun _ => rfl) 0 6 rfl rfl rfl rfl hl.1 rfl (Nat.le_of_ble_eq_true rfl) (Nat.le_of_ble_eq_true rfl) (Nat.le_of_ble_eq_true rfl) dX6_load_14 (fun r14 _ H locs hq14 hP hD hS => ?_)
    have hP : va_P K.1 vwCl (mw K h a (hput (hput (hrow (hput M 8 (1 : Int32)) 11 D6.1) 12 (nI D6.2.1)) 13 (nI D6.2.2))) H := hP
    have hD : va_D A (mw K h a (hput (hput (hrow (hput M 8 (1 : Int32)) 11 D6.1) 12 (nI D6.2.1)) 13 (nI D6.2.2))) := hD
    subst hq14
    exact hend _ _ _ _ _ _ _ (hput (hput (hrow (hput M 8 (1 : Int32)) 11 D6.1) 12 (nI D6.2.1)) 13 (nI D6.2.2)) hP hD hS (Nat.le_of_ble_eq_true rfl) (Nat.le_of_ble_eq_true rfl) (by exact ⟨congrArg nI (if_neg hfe).symm, rfl, rfl, rfl, rfl, fun _ => ⟨rfl, rfl, rfl⟩, fun z => absurd z hfe⟩) dX6_load_17

/-! the model: its text -/
abbrev dgK (ch : Nat → Nat) (L y lo hi : Nat) : Prop := y < L ∧ 48 + lo ≤ ch y ∧ ch y ≤ 48 + hi
def dgT (f : Nat → Int32) (ch : Nat → Nat) (L y lo hi e : Nat) : Nat → Int32 := if dgK ch L y lo hi then upd f e (nI (ch y - 48)) else f
def dgA (ch : Nat → Nat) (L y lo hi : Nat) : Nat := if dgK ch L y lo hi then y + 1 else y
theorem dgA_le (ch : Nat → Nat) (L y lo hi : Nat) : dgA ch L y lo hi ≤ y + 1 := by
  unfold dgA
  split <;> omega
theorem isC_of {c : Nat} (h : c = 114 ∨ c = 112 ∨ c = 121 ∨ c = 102 ∨ c = 97 ∨ c = 100 ∨ c = 103) : isC c := by
  rcases h with rfl | rfl | rfl | rfl | rfl | rfl | rfl <;> (unfold isC; decide)
theorem isC_to {c : Nat} (h : isC c) : c = 114 ∨ c = 112 ∨ c = 121 ∨ c = 102 ∨ c = 97 ∨ c = 100 ∨ c = 103 := by
  rcases h with h | h | h
  · omega
  · omega
  · unfold dgB at h
    repeat' split at h
    all_goals omega
def dOK (c : Nat) (ch : Nat → Nat) (L y j : Nat) : Prop := y + j < L ∧ ldD c j ≤ ch (y + j) ∧ ch (y + j) ≤ gdD c j
def cmE (ch : Nat → Nat) (L y : Nat) : Int32 := if ¬ isC (ch y) then nI y else ebF ch L y 1 (dgB (ch y))
def tdOK (ch : Nat → Nat) (f g : Nat → Int32) (y t : Nat) : Prop := f (4 * t) = nI (ch y) ∧ (∀ j, 1 ≤ j → j ≤ dgB (ch y) → f (4 * t + j) = nI (ch (y + j) - 48)) ∧ ∀ i, i < 4 * t → f i = g i
def cmP (ch : Nat → Nat) (L y t : Nat) (g : Nat → Int32) (r : Int32) (f : Nat → Int32) (u : Nat) : Prop := r = @bI (okC ch L y) (Classical.propDecidable _) ∧ u ≤ L ∧ (okC ch L y → u = y + (1 + dgB (ch y)) ∧ tdOK ch f g y t) ∧ (¬ okC ch L y → nI u = cmE ch L y)
theorem eb_stop {ch : Nat → Nat} {L y d s : Nat} (hs : s ≤ d) (hn : ¬ dOK (ch y) ch L y s) (hL : y + s ≤ L) : ∀ (n i : Nat), i + n = d + 1 → i ≤ s → (∀ j, i ≤ j → j < s → dOK (ch y) ch L y j) → ebF ch L y i n = nI (y + s)
  | 0, i, h1, h2, _ => by omega
  | n + 1, i, h1, h2, h3 => by
    unfold ebF
    by_cases e : i = s
    · subst e
      by_cases c : L ≤ y + i
      · rw [if_pos c, show L = y + i by omega]
      · rw [if_neg c, if_pos]
        rcases Nat.lt_or_ge (ch (y + i)) (ldD (ch y) i) with z | z
        · exact Or.inl z
        · rcases Nat.lt_or_ge (gdD (ch y) i) (ch (y + i)) with z2 | z2
          · exact Or.inr z2
          · exact absurd ⟨by omega, z, z2⟩ hn
    · obtain ⟨a1, a2, a3⟩ := h3 i (Nat.le_refl _) (by omega)
      rw [if_neg (by omega), if_neg (by omega)]
      exact eb_stop hs hn hL n (i + 1) (by omega) (by omega) (fun j x1 x2 => h3 j (by omega) x2)
theorem eb_good {ch : Nat → Nat} {L y : Nat} : ∀ (n i : Nat), (∀ j, i ≤ j → j < i + n → dOK (ch y) ch L y j) → ebF ch L y i n = -1
  | 0, _, _ => rfl
  | n + 1, i, h => by
    obtain ⟨a1, a2, a3⟩ := h i (Nat.le_refl _) (by omega)
    unfold ebF
    rw [if_neg (by omega), if_neg (by omega)]
    exact eb_good n (i + 1) (fun j x1 x2 => h j (by omega) (by omega))
theorem okC_eb {ch : Nat → Nat} {L y : Nat} (hL : L < 2 ^ 31) : okC ch L y ↔ isC (ch y) ∧ ebF ch L y 1 (dgB (ch y)) = -1 := by
  constructor
  · intro h
    exact ⟨h.1, eb_good _ 1 (fun j a b => h.2 j a (by omega))⟩
  · intro h
    exact ⟨h.1, fun j a b => ebF_ok hL _ 1 h.2 j a (by omega)⟩
theorem cm_g {ch : Nat → Nat} {L y t c d u : Nat} {f g : Nat → Int32} (hc : ch y = c) (hd : dgB c = d) (hC : isC c) (hyL : y < L) (hk : ∀ j, 1 ≤ j → j ≤ d → dOK c ch L y j) (hu : u = y + (1 + d)) (ht : tdOK ch f g y t) : cmP ch L y t g 1 f u := by
  subst hc
  subst hd
  have ho : okC ch L y := ⟨hC, hk⟩
  refine ⟨(@bI_t _ (Classical.propDecidable _) ho).symm, ?_, fun _ => ⟨hu, ht⟩, fun z => absurd ho z⟩
  rcases Nat.eq_zero_or_pos (dgB (ch y)) with z | z
  · omega
  · have := (hk (dgB (ch y)) z (Nat.le_refl _)).1
    omega
theorem cm_b {ch : Nat → Nat} {L y t c d u s : Nat} {f g : Nat → Int32} (hc : ch y = c) (hd : dgB c = d) (hC : isC c) (hyL : y < L) (hs : 1 ≤ s ∧ s ≤ d) (hk : ∀ j, 1 ≤ j → j ≤ s - 1 → dOK c ch L y j) (hn : ¬ dOK c ch L y s) (hu : u = y + s) : cmP ch L y t g 0 f u := by
  subst hc
  subst hd
  have hL : y + s ≤ L := by
    rcases Nat.eq_or_lt_of_le hs.1 with z | z
    · omega
    · have := (hk (s - 1) (by omega) (Nat.le_refl _)).1
      omega
  have ho : ¬ okC ch L y := fun z => hn (z.2 s hs.1 hs.2)
  refine ⟨(@bI_f _ (Classical.propDecidable _) ho).symm, by omega, fun z => absurd z ho, fun _ => ?_⟩
  unfold cmE
  rw [if_neg (fun z => z hC), hu]
  exact (eb_stop hs.2 hn hL _ 1 (by omega) hs.1 (fun j a b => hk j a (by omega))).symm
theorem cm_n {ch : Nat → Nat} {L y t u : Nat} {f g : Nat → Int32} (hC : ¬ isC (ch y)) (hyL : y < L) (hu : u = y) : cmP ch L y t g 0 f u := by
  have ho : ¬ okC ch L y := fun z => hC z.1
  refine ⟨(@bI_f _ (Classical.propDecidable _) ho).symm, by omega, fun z => absurd z ho, fun _ => ?_⟩
  unfold cmE
  rw [if_pos hC, hu]

abbrev rm_X6_isAt : Room := { frames := 1, cells := 0, slots := 0, locals := 22 }
set_option maxHeartbeats 4000000 in
set_option maxRecDepth 100000 in
theorem c_X6_isAt (l : Launch) (K : KX) (h : Nat) (a : Nat → Nat) (M : HV) (lo : Nat) (hlo : lo < 65536) (hi : Nat) (hhi : hi < 65536) (L : Nat) (hL0 : M 7 0 = nI L) (hL0b : L ≤ 120) (y : Nat) (hy0 : M 13 0 = nI y) (hy0b : y ≤ 1000) (ch : Nat → Nat) (htx : ∀ i, i < L → M 6 i = nI (ch i) ∧ ch i < 256) : Met l yX6_isAt wsX6_isAt rm_X6_isAt (va_Pc [.ref h, .int (nI lo), .int (nI hi)] (xRead K (mw K h a M))) (vp_Si (fun r9 => r9 = bI (y < L ∧ lo ≤ ch y ∧ ch y ≤ hi))) 0 0 (fun _ => False) := by
  refine xr_startz (cc := cX6_isAt) (maxL := 3) (ret := .boolean) (by decide) rfl (Nat.le_of_ble_eq_true rfl) ?_
  intro p9 e9 s9 m9 below9 meth9 c9 H ls av9 Q9 hx hb hlocks hml hts hown hK hP hend hl
  have hown : s9.vm.findClass RX6 = some m9.cls := hown
  have hl : lv_has ls 3 [(0, .ref h), (1, .int (nI lo)), (2, .int (nI hi))] := hl
  have hi6 : ∀ w ∈ u_ws RX6 TX6 14, w ∈ wsX6_isAt := by decide +kernel
  have lk100 := hts (.fieldLink RX6 100 "StandInsModel" "at" "I") (by decide +kernel)
  have lk97 := hts (.fieldLink RX6 97 "StandInsModel" "typed" "I") (by decide +kernel)
  have lk26 := hts (.fieldLink RX6 26 "StandInsModel" "text" "[I") (by decide +kernel)
  refine lv_aload_n hx hb dX6_isAt_0 rfl (lv_at hl 0 rfl) ?_
  refine va_get (ci := 6) (v := .int (M 13 0)) (C := RX6) (T := TX6) (N := 14) hx hb hts hi6 hown hK hP 0 rfl rfl 13 (by decide) lk100 (fun _ h9 => h9) rfl dX6_isAt_1 ?_
  refine lv_aload_n hx hb dX6_isAt_4 rfl (lv_at hl 0 rfl) ?_
  refine va_get (ci := 6) (v := .int (M 7 0)) (C := RX6) (T := TX6) (N := 14) hx hb hts hi6 hown hK hP 0 rfl rfl 7 (by decide) lk97 (fun _ h9 => h9) rfl dX6_isAt_5 ?_
  refine xn_icmp_ge (tgt := 32) hx hb y L hy0 hL0 (by omega) (by omega) dX6_isAt_8 (by decide) (fun c_8 => ?_) (fun c_8 => ?_)
  · skip
    refine lv_iconst (v := (0 : Int32)) hx hb dX6_isAt_32 (by decide) ?_
    exact hend _ _ _ (by decide) (by first | exact (bI_t ⟨c_8, (nI_leI (by omega) (by omega)).mp c_25.1, (nI_leI (by omega) (by omega)).mp c_25.2⟩).symm | exact (bI_f (fun z => c_25 ⟨(nI_leI (by omega) (by omega)).mpr z.2.1, (nI_leI (by omega) (by omega)).mpr z.2.2⟩)).symm | exact (bI_f (fun z => absurd z.1 (Nat.not_lt.mpr c_8))).symm) dX6_isAt_33
  · skip
    have hcy := (htx y c_8).2
    refine lv_aload_n hx hb dX6_isAt_11 rfl (lv_at hl 0 rfl) ?_
    refine va_get (ci := 6) (v := .ref (a 6)) (C := RX6) (T := TX6) (N := 14) hx hb hts hi6 hown hK hP 0 rfl rfl 6 (by decide) lk26 (fun _ h9 => h9) rfl dX6_isAt_12 ?_
    refine lv_aload_n hx hb dX6_isAt_15 rfl (lv_at hl 0 rfl) ?_
    refine va_get (ci := 6) (v := .int (M 13 0)) (C := RX6) (T := TX6) (N := 14) hx hb hts hi6 hown hK hP 0 rfl rfl 13 (by decide) lk100 (fun _ h9 => h9) rfl dX6_isAt_16 ?_
    refine xi_ld hx hb hK hP 6 (f := M 6) rfl y hy0 (by omega) (by decide) dX6_isAt_19 ?_
    rw [show M 6 y = nI (ch y) from (htx y (by omega)).1]
    refine lv_iload_n hx hb dX6_isAt_20 rfl (lv_at hl 1 rfl) ?_
    refine lv_iload_n hx hb dX6_isAt_21 rfl (lv_at hl 2 rfl) ?_
    have hPc := P_sub (ws' := []) hP [] rfl
    refine xr_S (As := [.int (nI (ch y)), .int (nI lo), .int (nI hi)]) (rest := []) ⟨hx, hb, hml, hown, hts⟩ (c_X6_in l K (nI (ch y)) (nI lo) (nI hi)) (va_cwS 3 hts gX6_isAt_X6_in rfl rfl rfl (by decide +kernel) ⟨Nat.le_of_ble_eq_true rfl, Nat.le_of_ble_eq_true rfl⟩) hK hPc rfl hl.1 rfl (Nat.le_of_ble_eq_true rfl) (Nat.le_of_ble_eq_true rfl) (Nat.le_of_ble_eq_true rfl) dX6_isAt_22 ?_
    refine xb_if_eq (tgt := 32) hx hb dX6_isAt_25 (by decide) (fun c_25 => ?_) (fun c_25 => ?_)
    · skip
      refine lv_iconst (v := (0 : Int32)) hx hb dX6_isAt_32 (by decide) ?_
      exact hend _ _ _ (by decide) (by first | exact (bI_t ⟨c_8, (nI_leI (by omega) (by omega)).mp c_25.1, (nI_leI (by omega) (by omega)).mp c_25.2⟩).symm | exact (bI_f (fun z => c_25 ⟨(nI_leI (by omega) (by omega)).mpr z.2.1, (nI_leI (by omega) (by omega)).mpr z.2.2⟩)).symm | exact (bI_f (fun z => absurd z.1 (Nat.not_lt.mpr c_8))).symm) dX6_isAt_33
    · skip
      refine lv_iconst (v := (1 : Int32)) hx hb dX6_isAt_28 (by decide) ?_
      refine lv_goto (tgt := 33) hx hb dX6_isAt_29 (by decide) ?_
      exact hend _ _ _ (by decide) (by first | exact (bI_t ⟨c_8, (nI_leI (by omega) (by omega)).mp c_25.1, (nI_leI (by omega) (by omega)).mp c_25.2⟩).symm | exact (bI_f (fun z => c_25 ⟨(nI_leI (by omega) (by omega)).mpr z.2.1, (nI_leI (by omega) (by omega)).mpr z.2.2⟩)).symm | exact (bI_f (fun z => absurd z.1 (Nat.not_lt.mpr c_8))).symm) dX6_isAt_33

abbrev rm_X6_isDigit : Room := { frames := 2, cells := 0, slots := 0, locals := 44 }
set_option maxHeartbeats 4000000 in
set_option maxRecDepth 100000 in
theorem c_X6_isDigit (l : Launch) (K : KX) (h : Nat) (a : Nat → Nat) (M : HV) (i : Nat) (hi : i < 4) (lo : Nat) (hlo : lo < 10) (up : Nat) (hup : up < 10) (L : Nat) (hL0 : M 7 0 = nI L) (hL0b : L ≤ 120) (y : Nat) (hy0 : M 13 0 = nI y) (hy0b : y ≤ 1000) (tn : Nat) (ht0 : M 12 0 = nI tn) (ht0b : tn ≤ 119) (ch : Nat → Nat) (htx : ∀ i, i < L → M 6 i = nI (ch i) ∧ ch i < 256) (sz : Nat) : Met l yX6_isDigit wsX6_isDigit rm_X6_isDigit (va_Pc [.ref h, .int (nI i), .int (nI lo), .int (nI up)] (xPre K (mw K h a M) sz)) (va_Qi (fun (r9 : Int32) (_u : Unit) => r9 = bI (dgK ch L y lo up)) (fun _u t => xPost K (va_A (mw K h a M) sz) (mw K h a (hput (hrow M 11 (dgT (M 11) ch L y lo up (4 * tn + i))) 13 (nI (dgA ch L y lo up)))) t) (va_A (mw K h a M) sz)) 0 0 (va_A (mw K h a M) sz) := by
  refine xw_startz (cc := cX6_isDigit) (maxL := 5) (ret := .boolean) (by decide) rfl (Nat.le_of_ble_eq_true rfl) ?_
  intro p9 e9 s9 m9 below9 meth9 c9 H locs ls A av9 Q9 hx hb hlocks hml hname hts hown hK hP hD hS hA hsz hend hl
  have hown : s9.vm.findClass RX6 = some m9.cls := hown
  have hl : lv_has ls 5 [(0, .ref h), (1, .int (nI i)), (2, .int (nI lo)), (3, .int (nI up))] := hl
  have hi6 : ∀ w ∈ u_ws RX6 TX6 14, w ∈ wsX6_isDigit := by decide +kernel
  have lk35 := hts (.fieldLink RX6 35 "StandInsModel" "told" "[I") (by decide +kernel)
  have lk107 := hts (.fieldLink RX6 107 "StandInsModel" "tolds" "I") (by decide +kernel)
  have lk26 := hts (.fieldLink RX6 26 "StandInsModel" "text" "[I") (by decide +kernel)
  have lk100 := hts (.fieldLink RX6 100 "StandInsModel" "at" "I") (by decide +kernel)
  refine lv_aload_n hx hb dX6_isDigit_0 rfl (lv_at hl 0 rfl) ?_
  refine lv_bipush (v := (48 : Int32)) hx hb dX6_isDigit_1 (by decide) ?_
  refine lv_iload_n hx hb dX6_isDigit_3 rfl (lv_at hl 2 rfl) ?_
  refine lv_iadd hx hb dX6_isDigit_4 ?_
  refine lv_bipush (v := (48 : Int32)) hx hb dX6_isDigit_5 (by decide) ?_
  refine lv_iload_n hx hb dX6_isDigit_7 rfl (lv_at hl 3 rfl) ?_
  refine lv_iadd hx hb dX6_isDigit_8 ?_
  rw [show (48 : Int32) + (nI lo) = nI (48 + lo) from (nn_add rfl rfl)]
  rw [show (48 : Int32) + (nI up) = nI (48 + up) from (nn_add rfl rfl)]
  have hPc : va_P K.1 vwCl (mw K h a M) H := hP
  refine xr_V (As := [.int (nI (48 + lo)), .int (nI (48 + up))]) (rest := []) ⟨hx, hb, hml, hown, hts⟩ (c_X6_isAt l K h a M (48 + lo) (by omega) (48 + up) (by omega) L hL0 (by omega) y hy0 (by omega) ch (by first | assumption | omega)) (cwV 2 hts gX6_isDigit_X6_isAt rfl rfl rfl (by decide +kernel) ⟨Nat.le_of_ble_eq_true rfl, Nat.le_of_ble_eq_true rfl⟩) hK hPc 0 6 rfl rfl rfl rfl hl.1 rfl (Nat.le_of_ble_eq_true rfl) (Nat.le_of_ble_eq_true rfl) (Nat.le_of_ble_eq_true rfl) dX6_isDigit_9 ?_
  refine lv_istore (lv' := [(4, .int (bI (y < L ∧ (48 + lo) ≤ ch y ∧ ch y ≤ (48 + up)))), (0, .ref h), (1, .int (nI i)), (2, .int (nI lo)), (3, .int (nI up))]) hx hb dX6_isDigit_12 hl (by decide) rfl (fun ls hl => ?_)
  refine lv_iload hx hb dX6_isDigit_14 (lv_at hl 0 rfl) ?_
  refine xb_if_eq (tgt := 54) hx hb dX6_isDigit_16 (by decide) (fun c_16 => ?_) (fun c_16 => ?_)
  · skip
    refine lv_iload hx hb dX6_isDigit_54 (lv_at hl 0 rfl) ?_
    have hP : va_P K.1 vwCl (mw K h a (hrow M 11 (M 11))) H := hP
    have hD : va_D A (mw K h a (hrow M 11 (M 11))) := hD
    have eR1 : (M 11) = dgT (M 11) ch L y lo up (4 * tn + i) := by first | exact (if_pos c_16).symm | exact (if_neg c_16).symm | (rw [show nI (ch y) - (48 : Int32) = nI (ch y - 48) from nn_sub rfl rfl (by omega)]; exact (if_pos c_16).symm) | exact congrArg nI (if_pos c_16).symm | (rw [hy0]; exact congrArg nI (if_neg c_16).symm)
    have hP : va_P K.1 vwCl (mw K h a (hrow M 11 (dgT (M 11) ch L y lo up (4 * tn + i)))) H := by rw [← eR1]; exact hP
    have hD : va_D A (mw K h a (hrow M 11 (dgT (M 11) ch L y lo up (4 * tn + i)))) := by rw [← eR1]; exact hD
    have hP : va_P K.1 vwCl (mw K h a (hput (hrow M 11 (dgT (M 11) ch L y lo up (4 * tn + i))) 13 ((M 13) 0))) H := hP
    have hD : va_D A (mw K h a (hput (hrow M 11 (dgT (M 11) ch L y lo up (4 * tn + i))) 13 ((M 13) 0))) := hD
    have eR2 : ((M 13) 0) = nI (dgA ch L y lo up) := by first | exact (if_pos c_16).symm | exact (if_neg c_16).symm | (rw [show nI (ch y) - (48 : Int32) = nI (ch y - 48) from nn_sub rfl rfl (by omega)]; exact (if_pos c_16).symm) | exact congrArg nI (if_pos c_16).symm | (rw [hy0]; exact congrArg nI (if_neg c_16).symm)
    rw [eR2] at hP hD
    exact hend _ _ _ _ _ _ _ (bI_narrow) () hP hD hS (Nat.le_of_ble_eq_true rfl) (Nat.le_of_ble_eq_true rfl) (by rfl) dX6_isDigit_56
  · skip
    refine lv_aload_n hx hb dX6_isDigit_19 rfl (lv_at hl 1 rfl) ?_
    refine va_get (ci := 6) (v := .ref (a 11)) (C := RX6) (T := TX6) (N := 14) hx hb hts hi6 hown hK hP 0 rfl rfl 11 (by decide) lk35 (fun _ h9 => h9) rfl dX6_isDigit_20 ?_
    refine lv_iconst (v := (4 : Int32)) hx hb dX6_isDigit_23 (by decide) ?_
    refine lv_aload_n hx hb dX6_isDigit_24 rfl (lv_at hl 1 rfl) ?_
    refine va_get (ci := 6) (v := .int (M 12 0)) (C := RX6) (T := TX6) (N := 14) hx hb hts hi6 hown hK hP 0 rfl rfl 12 (by decide) lk107 (fun _ h9 => h9) rfl dX6_isDigit_25 ?_
    refine lv_imul hx hb dX6_isDigit_28 ?_
    refine lv_iload_n hx hb dX6_isDigit_29 rfl (lv_at hl 2 rfl) ?_
    refine lv_iadd hx hb dX6_isDigit_30 ?_
    refine lv_aload_n hx hb dX6_isDigit_31 rfl (lv_at hl 1 rfl) ?_
    refine va_get (ci := 6) (v := .ref (a 6)) (C := RX6) (T := TX6) (N := 14) hx hb hts hi6 hown hK hP 0 rfl rfl 6 (by decide) lk26 (fun _ h9 => h9) rfl dX6_isDigit_32 ?_
    refine lv_aload_n hx hb dX6_isDigit_35 rfl (lv_at hl 1 rfl) ?_
    refine va_get (ci := 6) (v := .int (M 13 0)) (C := RX6) (T := TX6) (N := 14) hx hb hts hi6 hown hK hP 0 rfl rfl 13 (by decide) lk100 (fun _ h9 => h9) rfl dX6_isDigit_36 ?_
    refine xi_ld hx hb hK hP 6 (f := M 6) rfl y hy0 (by omega) (by decide) dX6_isDigit_39 ?_
    rw [show M 6 y = nI (ch y) from (htx y (by omega)).1]
    refine lv_bipush (v := (48 : Int32)) hx hb dX6_isDigit_40 (by decide) ?_
    refine lv_isub hx hb dX6_isDigit_42 ?_
    refine xi_st hx hb hK hP hD hS 9 (f := M 11) rfl ((4 * tn) + i) (nn_add (nn_mul rfl ht0) rfl) (by omega) (by decide) (mw K h a (hrow M 11 (upd (M 11) ((4 * tn) + i) ((nI (ch y)) - (48 : Int32))))) rfl dX6_isDigit_43 (fun H locs hP hD hS => ?_)
    refine lv_aload_n hx hb dX6_isDigit_44 rfl (lv_at hl 1 rfl) ?_
    refine lv_dup hx hb dX6_isDigit_45 rfl ?_
    refine va_get (ci := 6) (v := .int (M 13 0)) (C := RX6) (T := TX6) (N := 14) hx hb hts hi6 hown hK hP 0 rfl rfl 13 (by decide) lk100 (fun _ h9 => h9) rfl dX6_isDigit_46 ?_
    refine lv_iconst (v := (1 : Int32)) hx hb dX6_isDigit_49 (by decide) ?_
    refine lv_iadd hx hb dX6_isDigit_50 ?_
    rw [show (M 13 0) + (1 : Int32) = nI (y + 1) from (nn_add hy0 rfl)]
    refine va_put (ci := 6) (v := .int (nI (y + 1))) (ty := .int) (C := RX6) (T := TX6) (N := 14) hx hb hts hi6 tyX6 tyX6_ok nmX6 hown hK hP hD hS 0 rfl rfl 13 (by decide) lk100 (fun _ h9 => h9) rfl (by decide +kernel) rfl rfl (Nat.le_of_ble_eq_true rfl) dX6_isDigit_51 (fun H locs hP hD hS => ?_)
    have hP : va_P K.1 vwCl (mw K h a (hput (hrow M 11 (upd (M 11) ((4 * tn) + i) ((nI (ch y)) - (48 : Int32)))) 13 (nI (y + 1)))) H := hP
    have hD : va_D A (mw K h a (hput (hrow M 11 (upd (M 11) ((4 * tn) + i) ((nI (ch y)) - (48 : Int32)))) 13 (nI (y + 1)))) := hD
    refine lv_iload hx hb dX6_isDigit_54 (lv_at hl 0 rfl) ?_
    have eR3 : (upd (M 11) ((4 * tn) + i) ((nI (ch y)) - (48 : Int32))) = dgT (M 11) ch L y lo up (4 * tn + i) := by first | exact (if_pos c_16).symm | exact (if_neg c_16).symm | (rw [show nI (ch y) - (48 : Int32) = nI (ch y - 48) from nn_sub rfl rfl (by omega)]; exact (if_pos c_16).symm) | exact congrArg nI (if_pos c_16).symm | (rw [hy0]; exact congrArg nI (if_neg c_16).symm)
    rw [eR3] at hP hD
    have eR4 : (nI (y + 1)) = nI (dgA ch L y lo up) := by first | exact (if_pos c_16).symm | exact (if_neg c_16).symm | (rw [show nI (ch y) - (48 : Int32) = nI (ch y - 48) from nn_sub rfl rfl (by omega)]; exact (if_pos c_16).symm) | exact congrArg nI (if_pos c_16).symm | (rw [hy0]; exact congrArg nI (if_neg c_16).symm)
    rw [eR4] at hP hD
    exact hend _ _ _ _ _ _ _ (bI_narrow) () hP hD hS (Nat.le_of_ble_eq_true rfl) (Nat.le_of_ble_eq_true rfl) (by rfl) dX6_isDigit_56

abbrev rm_X6_isCommand : Room := { frames := 3, cells := 0, slots := 0, locals := 68 }
set_option maxHeartbeats 4000000 in
set_option maxRecDepth 100000 in
theorem c_X6_isCommand (l : Launch) (K : KX) (h : Nat) (a : Nat → Nat) (M : HV) (L : Nat) (hL0 : M 7 0 = nI L) (hL0b : L ≤ 120) (y : Nat) (hy0 : M 13 0 = nI y) (hy0b : y ≤ 1000) (tn : Nat) (ht0 : M 12 0 = nI tn) (ht0b : tn ≤ 119) (ch : Nat → Nat) (htx : ∀ i, i < L → M 6 i = nI (ch i) ∧ ch i < 256) (hyL : y < L) (sz : Nat) : Met l yX6_isCommand wsX6_isCommand rm_X6_isCommand (va_Pc [.ref h] (xPre K (mw K h a M) sz)) (va_Qi (fun (r9 : Int32) (u9 : (Nat → Int32) × Nat) => cmP ch L y tn (M 11) r9 u9.1 u9.2) (fun u9 t => xPost K (va_A (mw K h a M) sz) (mw K h a (hput (hrow M 11 u9.1) 13 (nI u9.2))) t) (va_A (mw K h a M) sz)) 0 0 (va_A (mw K h a M) sz) := by
  refine xw_startz (cc := cX6_isCommand) (maxL := 3) (ret := .boolean) (by decide) rfl (Nat.le_of_ble_eq_true rfl) ?_
  intro p9 e9 s9 m9 below9 meth9 c9 H locs ls A av9 Q9 hx hb hlocks hml hname hts hown hK hP hD hS hA hsz hend hl
  have hown : s9.vm.findClass RX6 = some m9.cls := hown
  have hl : lv_has ls 3 [(0, .ref h)] := hl
  have hi6 : ∀ w ∈ u_ws RX6 TX6 14, w ∈ wsX6_isCommand := by decide +kernel
  have lk26 := hts (.fieldLink RX6 26 "StandInsModel" "text" "[I") (by decide +kernel)
  have lk100 := hts (.fieldLink RX6 100 "StandInsModel" "at" "I") (by decide +kernel)
  have lk35 := hts (.fieldLink RX6 35 "StandInsModel" "told" "[I") (by decide +kernel)
  have lk107 := hts (.fieldLink RX6 107 "StandInsModel" "tolds" "I") (by decide +kernel)
  have hcy := (htx y hyL).2
  refine lv_aload_n hx hb dX6_isCommand_0 rfl (lv_at hl 0 rfl) ?_
  refine va_get (ci := 6) (v := .ref (a 6)) (C := RX6) (T := TX6) (N := 14) hx hb hts hi6 hown hK hP 0 rfl rfl 6 (by decide) lk26 (fun _ h9 => h9) rfl dX6_isCommand_1 ?_
  refine lv_aload_n hx hb dX6_isCommand_4 rfl (lv_at hl 0 rfl) ?_
  refine va_get (ci := 6) (v := .int (M 13 0)) (C := RX6) (T := TX6) (N := 14) hx hb hts hi6 hown hK hP 0 rfl rfl 13 (by decide) lk100 (fun _ h9 => h9) rfl dX6_isCommand_5 ?_
  refine xi_ld hx hb hK hP 6 (f := M 6) rfl y hy0 (by omega) (by decide) dX6_isCommand_8 ?_
  rw [show M 6 y = nI (ch y) from (htx y (by omega)).1]
  refine lv_istore_n (lv' := [(1, .int (nI (ch y))), (0, .ref h)]) hx hb dX6_isCommand_9 rfl hl (by decide) rfl (fun ls hl => ?_)
  refine lv_aload_n hx hb dX6_isCommand_10 rfl (lv_at hl 1 rfl) ?_
  refine va_get (ci := 6) (v := .ref (a 11)) (C := RX6) (T := TX6) (N := 14) hx hb hts hi6 hown hK hP 0 rfl rfl 11 (by decide) lk35 (fun _ h9 => h9) rfl dX6_isCommand_11 ?_
  refine lv_iconst (v := (4 : Int32)) hx hb dX6_isCommand_14 (by decide) ?_
  refine lv_aload_n hx hb dX6_isCommand_15 rfl (lv_at hl 1 rfl) ?_
  refine va_get (ci := 6) (v := .int (M 12 0)) (C := RX6) (T := TX6) (N := 14) hx hb hts hi6 hown hK hP 0 rfl rfl 12 (by decide) lk107 (fun _ h9 => h9) rfl dX6_isCommand_16 ?_
  refine lv_imul hx hb dX6_isCommand_19 ?_
  refine lv_iload_n hx hb dX6_isCommand_20 rfl (lv_at hl 0 rfl) ?_
  refine xi_st hx hb hK hP hD hS 9 (f := M 11) rfl (4 * tn) (nn_mul rfl ht0) (by omega) (by decide) (mw K h a (hrow M 11 (upd (M 11) (4 * tn) (nI (ch y))))) rfl dX6_isCommand_21 (fun H locs hP hD hS => ?_)
  refine lv_iload_n hx hb dX6_isCommand_22 rfl (lv_at hl 0 rfl) ?_
  have jn69 : ∀  (H : Heap) (locs : List Loc) (ls : Array Slot), va_P K.1 vwCl (mw K h a (hrow M 11 (upd (M 11) (4 * tn) (nI (ch y))))) H → va_D A (mw K h a (hrow M 11 (upd (M 11) (4 * tn) (nI (ch y))))) → va_S A s9.heap H locs → lv_has ls 3 [(0, .ref h), (1, .int (nI (ch y)))] → W p9 l e9 rm_X6_isCommand s9 m9 av9 below9 meth9 c9 H locs 0 0 Q9 (F0 m9 69 ls [.int (bI (isC (ch y)))]) := by
    intro H locs ls hP hD hS hl
    refine lv_istore_n (lv' := [(2, .int (bI (isC (ch y)))), (0, .ref h), (1, .int (nI (ch y)))]) hx hb dX6_isCommand_69 rfl hl (by decide) rfl (fun ls hl => ?_)
    refine lv_aload_n hx hb dX6_isCommand_70 rfl (lv_at hl 1 rfl) ?_
    refine lv_dup hx hb dX6_isCommand_71 rfl ?_
    refine va_get (ci := 6) (v := .int (M 13 0)) (C := RX6) (T := TX6) (N := 14) hx hb hts hi6 hown hK hP 0 rfl rfl 13 (by decide) lk100 (fun _ h9 => h9) rfl dX6_isCommand_72 ?_
    refine lv_iload_n hx hb dX6_isCommand_75 rfl (lv_at hl 0 rfl) ?_
    refine xb_if_eq (tgt := 83) hx hb dX6_isCommand_76 (by decide) (fun c_76 => ?_) (fun c_76 => ?_)
    · skip
      refine lv_iconst (v := (0 : Int32)) hx hb dX6_isCommand_83 (by decide) ?_
      refine lv_iadd hx hb dX6_isCommand_84 ?_
      rw [show (M 13 0) + (0 : Int32) = nI (y + 0) from (nn_add hy0 rfl)]
      refine va_put (ci := 6) (v := .int (nI (y + 0))) (ty := .int) (C := RX6) (T := TX6) (N := 14) hx hb hts hi6 tyX6 tyX6_ok nmX6 hown hK hP hD hS 0 rfl rfl 13 (by decide) lk100 (fun _ h9 => h9) rfl (by decide +kernel) rfl rfl (Nat.le_of_ble_eq_true rfl) dX6_isCommand_85 (fun H locs hP hD hS => ?_)
      have hP : va_P K.1 vwCl (mw K h a (hput (hrow M 11 (upd (M 11) (4 * tn) (nI (ch y)))) 13 (nI (y + 0)))) H := hP
      have hD : va_D A (mw K h a (hput (hrow M 11 (upd (M 11) (4 * tn) (nI (ch y)))) 13 (nI (y + 0)))) := hD
      refine lv_iload_n hx hb dX6_isCommand_88 rfl (lv_at hl 2 rfl) ?_
      refine lv_bipush (v := (114 : Int32)) hx hb dX6_isCommand_89 (by decide) ?_
      refine xn_icmp_eq (tgt := 100) hx hb (ch y) 114 rfl rfl (by omega) (by decide) dX6_isCommand_91 (by decide) (fun c_91 => ?_) (fun c_91 => ?_)
      · exact absurd (isC_of (by omega)) c_76
      · skip
        refine lv_iload_n hx hb dX6_isCommand_94 rfl (lv_at hl 2 rfl) ?_
        refine lv_bipush (v := (100 : Int32)) hx hb dX6_isCommand_95 (by decide) ?_
        refine xn_icmp_ne (tgt := 109) hx hb (ch y) 100 rfl rfl (by omega) (by decide) dX6_isCommand_97 (by decide) (fun c_97 => ?_) (fun c_97 => ?_)
        · skip
          refine lv_iload_n hx hb dX6_isCommand_109 rfl (lv_at hl 2 rfl) ?_
          refine lv_bipush (v := (121 : Int32)) hx hb dX6_isCommand_110 (by decide) ?_
          refine xn_icmp_ne (tgt := 153) hx hb (ch y) 121 rfl rfl (by omega) (by decide) dX6_isCommand_112 (by decide) (fun c_112 => ?_) (fun c_112 => ?_)
          · skip
            refine lv_iload_n hx hb dX6_isCommand_153 rfl (lv_at hl 2 rfl) ?_
            refine lv_bipush (v := (102 : Int32)) hx hb dX6_isCommand_154 (by decide) ?_
            refine xn_icmp_ne (tgt := 186) hx hb (ch y) 102 rfl rfl (by omega) (by decide) dX6_isCommand_156 (by decide) (fun c_156 => ?_) (fun c_156 => ?_)
            · skip
              refine lv_iload_n hx hb dX6_isCommand_186 rfl (lv_at hl 0 rfl) ?_
              refine xb_if_eq (tgt := 222) hx hb dX6_isCommand_187 (by decide) (fun c_187 => ?_) (fun c_187 => ?_)
              · skip
                refine lv_iconst (v := (0 : Int32)) hx hb dX6_isCommand_222 (by decide) ?_
                exact hend _ _ _ _ _ _ _ (by decide) (upd (M 11) (4 * tn) (nI (ch y)), (y + 0)) hP hD hS (Nat.le_of_ble_eq_true rfl) (Nat.le_of_ble_eq_true rfl) (by exact cm_n c_76 hyL (Nat.add_zero y)) dX6_isCommand_223
              · exact absurd c_187 c_76
            · exact absurd (isC_of (by omega)) c_76
          · exact absurd (isC_of (by omega)) c_76
        · exact absurd (isC_of (by omega)) c_76
    · skip
      refine lv_iconst (v := (1 : Int32)) hx hb dX6_isCommand_79 (by decide) ?_
      refine lv_goto (tgt := 84) hx hb dX6_isCommand_80 (by decide) ?_
      refine lv_iadd hx hb dX6_isCommand_84 ?_
      rw [show (M 13 0) + (1 : Int32) = nI (y + 1) from (nn_add hy0 rfl)]
      refine va_put (ci := 6) (v := .int (nI (y + 1))) (ty := .int) (C := RX6) (T := TX6) (N := 14) hx hb hts hi6 tyX6 tyX6_ok nmX6 hown hK hP hD hS 0 rfl rfl 13 (by decide) lk100 (fun _ h9 => h9) rfl (by decide +kernel) rfl rfl (Nat.le_of_ble_eq_true rfl) dX6_isCommand_85 (fun H locs hP hD hS => ?_)
      have hP : va_P K.1 vwCl (mw K h a (hput (hrow M 11 (upd (M 11) (4 * tn) (nI (ch y)))) 13 (nI (y + 1)))) H := hP
      have hD : va_D A (mw K h a (hput (hrow M 11 (upd (M 11) (4 * tn) (nI (ch y)))) 13 (nI (y + 1)))) := hD
      refine lv_iload_n hx hb dX6_isCommand_88 rfl (lv_at hl 2 rfl) ?_
      refine lv_bipush (v := (114 : Int32)) hx hb dX6_isCommand_89 (by decide) ?_
      refine xn_icmp_eq (tgt := 100) hx hb (ch y) 114 rfl rfl (by omega) (by decide) dX6_isCommand_91 (by decide) (fun c_91 => ?_) (fun c_91 => ?_)
      · skip
        refine lv_aload_n hx hb dX6_isCommand_100 rfl (lv_at hl 1 rfl) ?_
        refine lv_iconst (v := (1 : Int32)) hx hb dX6_isCommand_101 (by decide) ?_
        refine lv_iconst (v := (1 : Int32)) hx hb dX6_isCommand_102 (by decide) ?_
        refine lv_bipush (v := (9 : Int32)) hx hb dX6_isCommand_103 (by decide) ?_
        refine xw_Vi (As := [.int (1 : Int32), .int (1 : Int32), .int (9 : Int32)]) (rest := []) (wc := mw K h a (hput (hrow M 11 (upd (M 11) (4 * tn) (nI (ch y)))) 13 (nI (y + 1)))) (wr := (List.filterMap (fun i => (mw K h a (hput (hrow M 11 (upd (M 11) (4 * tn) (nI (ch y)))) 13 (nI (y + 1))) : va_W)[i]?) ([] : List Nat))) ⟨hx, hb, hml, hown, hts⟩ (c_X6_isDigit l K h a (hput (hrow M 11 (upd (M 11) (4 * tn) (nI (ch y)))) 13 (nI (y + 1))) 1 (by omega) 1 (by omega) 9 (by omega) L hL0 (by omega) (y + 1) rfl (by omega) tn ht0 (by omega) ch (by first | assumption | omega) H.size) (cwV 3 hts gX6_isCommand_X6_isDigit rfl rfl rfl (by decide +kernel) ⟨Nat.le_of_ble_eq_true rfl, Nat.le_of_ble_eq_true rfl⟩) hK hP hD hS hA [0, 1, 2, 3, 4, 5, 6, 7, 8, 9] [] [0, 1, 2, 3, 4, 5, 6, 7, 8, 9] rfl rfl rfl (fun _u => mw K h a (hput (hrow M 11 (dgT ((upd (M 11) (4 * tn) (nI (ch y)))) ch L (y + 1) 1 9 (4 * tn + 1))) 13 (nI (dgA ch L (y + 1) 1 9)))) (fun _ => rfl) 0 6 rfl rfl rfl rfl hl.1 rfl (Nat.le_of_ble_eq_true rfl) (Nat.le_of_ble_eq_true rfl) (Nat.le_of_ble_eq_true rfl) dX6_isCommand_105 (fun r105 _ H locs hq105 hP hD hS => ?_)
        have hP : va_P K.1 vwCl (mw K h a (hput (hrow M 11 (dgT ((upd (M 11) (4 * tn) (nI (ch y)))) ch L (y + 1) 1 9 (4 * tn + 1))) 13 (nI (dgA ch L (y + 1) 1 9)))) H := hP
        have hD : va_D A (mw K h a (hput (hrow M 11 (dgT ((upd (M 11) (4 * tn) (nI (ch y)))) ch L (y + 1) 1 9 (4 * tn + 1))) 13 (nI (dgA ch L (y + 1) 1 9)))) := hD
        subst hq105
        exact hend _ _ _ _ _ _ _ (bI_narrow) (dgT ((upd (M 11) (4 * tn) (nI (ch y)))) ch L (y + 1) 1 9 (4 * tn + 1), (dgA ch L (y + 1) 1 9)) hP hD hS (Nat.le_of_ble_eq_true rfl) (Nat.le_of_ble_eq_true rfl) (by (try dsimp only); by_cases k0 : dgK ch L (y + 1) 1 9; (have k1 : y + 1 < L ∧ 48 + 1 ≤ ch (y + 1) ∧ ch (y + 1) ≤ 48 + 9 := k0; rw [bI_t k0]; unfold dgT dgA; rw [if_pos k0, if_pos k0]; exact cm_g (d := 1) c_91 rfl (by unfold isC; decide) hyL (fun j h1 h2 => by rcases (show j = 1 by omega) with rfl; exact (⟨k1.1, by rw [show ldD 114 1 = 49 from rfl]; exact k1.2.1, by rw [show gdD 114 1 = 57 from rfl]; exact k1.2.2⟩)) rfl ⟨(by repeat (first | exact pk_us | rw [pk_un (by omega)])), (fun j h1 h2 => by rw [c_91, show dgB 114 = 1 from rfl] at h2; rcases (show j = 1 by omega) with rfl; exact (by repeat (first | exact pk_us | rw [pk_un (by omega)]))), fun i hi => (by repeat (first | exact pk_us | rw [pk_un (by omega)]))⟩); (have k1 : ¬ (y + 1 < L ∧ 48 + 1 ≤ ch (y + 1) ∧ ch (y + 1) ≤ 48 + 9) := k0; rw [bI_f k0]; unfold dgT dgA; rw [if_neg k0, if_neg k0]; exact cm_b (s := 1) (d := 1) c_91 rfl (by unfold isC; decide) hyL (by decide) (fun j h1 h2 => absurd h1 (by omega)) (fun z => k1 ⟨z.1, by have z1 := z.2.1; rw [show ldD 114 1 = 49 from rfl] at z1; exact z1, by have z2 := z.2.2; rw [show gdD 114 1 = 57 from rfl] at z2; exact z2⟩) rfl)) dX6_isCommand_108
      · skip
        refine lv_iload_n hx hb dX6_isCommand_94 rfl (lv_at hl 2 rfl) ?_
        refine lv_bipush (v := (100 : Int32)) hx hb dX6_isCommand_95 (by decide) ?_
        refine xn_icmp_ne (tgt := 109) hx hb (ch y) 100 rfl rfl (by omega) (by decide) dX6_isCommand_97 (by decide) (fun c_97 => ?_) (fun c_97 => ?_)
        · skip
          refine lv_iload_n hx hb dX6_isCommand_109 rfl (lv_at hl 2 rfl) ?_
          refine lv_bipush (v := (121 : Int32)) hx hb dX6_isCommand_110 (by decide) ?_
          refine xn_icmp_ne (tgt := 153) hx hb (ch y) 121 rfl rfl (by omega) (by decide) dX6_isCommand_112 (by decide) (fun c_112 => ?_) (fun c_112 => ?_)
          · skip
            refine lv_iload_n hx hb dX6_isCommand_153 rfl (lv_at hl 2 rfl) ?_
            refine lv_bipush (v := (102 : Int32)) hx hb dX6_isCommand_154 (by decide) ?_
            refine xn_icmp_ne (tgt := 186) hx hb (ch y) 102 rfl rfl (by omega) (by decide) dX6_isCommand_156 (by decide) (fun c_156 => ?_) (fun c_156 => ?_)
            · skip
              refine lv_iload_n hx hb dX6_isCommand_186 rfl (lv_at hl 0 rfl) ?_
              refine xb_if_eq (tgt := 222) hx hb dX6_isCommand_187 (by decide) (fun c_187 => ?_) (fun c_187 => ?_)
              · exact absurd c_76 c_187
              · skip
                refine lv_iload_n hx hb dX6_isCommand_190 rfl (lv_at hl 2 rfl) ?_
                refine lv_bipush (v := (97 : Int32)) hx hb dX6_isCommand_191 (by decide) ?_
                refine xn_icmp_ne (tgt := 218) hx hb (ch y) 97 rfl rfl (by omega) (by decide) dX6_isCommand_193 (by decide) (fun c_193 => ?_) (fun c_193 => ?_)
                · skip
                  refine lv_iconst (v := (1 : Int32)) hx hb dX6_isCommand_218 (by decide) ?_
                  refine lv_goto (tgt := 223) hx hb dX6_isCommand_219 (by decide) ?_
                  exact hend _ _ _ _ _ _ _ (by decide) (upd (M 11) (4 * tn) (nI (ch y)), (y + 1)) hP hD hS (Nat.le_of_ble_eq_true rfl) (Nat.le_of_ble_eq_true rfl) (by (try dsimp only); rcases (show ch y = 112 ∨ ch y = 103 from (by have z9 := isC_to c_76; omega)) with hcc | hcc <;> exact cm_g (d := 0) hcc rfl (by unfold isC; decide) hyL (fun j h1 h2 => absurd h1 (by omega)) rfl ⟨(by repeat (first | exact pk_us | rw [pk_un (by omega)])), fun j h1 h2 => absurd (Nat.le_trans h1 h2) (by rw [hcc]; decide), fun i hi => (by repeat (first | exact pk_us | rw [pk_un (by omega)]))⟩) dX6_isCommand_223
                · skip
                  refine lv_aload_n hx hb dX6_isCommand_196 rfl (lv_at hl 1 rfl) ?_
                  refine lv_iconst (v := (1 : Int32)) hx hb dX6_isCommand_197 (by decide) ?_
                  refine lv_iconst (v := (0 : Int32)) hx hb dX6_isCommand_198 (by decide) ?_
                  refine lv_bipush (v := (9 : Int32)) hx hb dX6_isCommand_199 (by decide) ?_
                  refine xw_Vi (As := [.int (1 : Int32), .int (0 : Int32), .int (9 : Int32)]) (rest := []) (wc := mw K h a (hput (hrow M 11 (upd (M 11) (4 * tn) (nI (ch y)))) 13 (nI (y + 1)))) (wr := (List.filterMap (fun i => (mw K h a (hput (hrow M 11 (upd (M 11) (4 * tn) (nI (ch y)))) 13 (nI (y + 1))) : va_W)[i]?) ([] : List Nat))) ⟨hx, hb, hml, hown, hts⟩ (c_X6_isDigit l K h a (hput (hrow M 11 (upd (M 11) (4 * tn) (nI (ch y)))) 13 (nI (y + 1))) 1 (by omega) 0 (by omega) 9 (by omega) L hL0 (by omega) (y + 1) rfl (by omega) tn ht0 (by omega) ch (by first | assumption | omega) H.size) (cwV 3 hts gX6_isCommand_X6_isDigit rfl rfl rfl (by decide +kernel) ⟨Nat.le_of_ble_eq_true rfl, Nat.le_of_ble_eq_true rfl⟩) hK hP hD hS hA [0, 1, 2, 3, 4, 5, 6, 7, 8, 9] [] [0, 1, 2, 3, 4, 5, 6, 7, 8, 9] rfl rfl rfl (fun _u => mw K h a (hput (hrow M 11 (dgT ((upd (M 11) (4 * tn) (nI (ch y)))) ch L (y + 1) 0 9 (4 * tn + 1))) 13 (nI (dgA ch L (y + 1) 0 9)))) (fun _ => rfl) 0 6 rfl rfl rfl rfl hl.1 rfl (Nat.le_of_ble_eq_true rfl) (Nat.le_of_ble_eq_true rfl) (Nat.le_of_ble_eq_true rfl) dX6_isCommand_201 (fun r201 _ H locs hq201 hP hD hS => ?_)
                  have hP : va_P K.1 vwCl (mw K h a (hput (hrow M 11 (dgT ((upd (M 11) (4 * tn) (nI (ch y)))) ch L (y + 1) 0 9 (4 * tn + 1))) 13 (nI (dgA ch L (y + 1) 0 9)))) H := hP
                  have hD : va_D A (mw K h a (hput (hrow M 11 (dgT ((upd (M 11) (4 * tn) (nI (ch y)))) ch L (y + 1) 0 9 (4 * tn + 1))) 13 (nI (dgA ch L (y + 1) 0 9)))) := hD
                  subst hq201
                  refine xb_if_eq (tgt := 222) hx hb dX6_isCommand_204 (by decide) (fun c_204 => ?_) (fun c_204 => ?_)
                  · skip
                    have eA1 : dgA ch L (y + 1) 0 9 = y + 1 := if_neg c_204
                    have eB1 : dgT ((upd (M 11) (4 * tn) (nI (ch y)))) ch L (y + 1) 0 9 (4 * tn + 1) = upd (M 11) (4 * tn) (nI (ch y)) := if_neg c_204
                    have k1 : ¬ (y + 1 < L ∧ 48 + 0 ≤ ch (y + 1) ∧ ch (y + 1) ≤ 48 + 9) := c_204
                    rw [eA1, eB1] at hP hD
                    have hP : va_P K.1 vwCl (mw K h a (hput (hrow M 11 (upd (M 11) (4 * tn) (nI (ch y)))) 13 (nI (y + 1)))) H := hP
                    have hD : va_D A (mw K h a (hput (hrow M 11 (upd (M 11) (4 * tn) (nI (ch y)))) 13 (nI (y + 1)))) := hD
                    refine lv_iconst (v := (0 : Int32)) hx hb dX6_isCommand_222 (by decide) ?_
                    exact hend _ _ _ _ _ _ _ (by decide) (upd (M 11) (4 * tn) (nI (ch y)), (y + 1)) hP hD hS (Nat.le_of_ble_eq_true rfl) (Nat.le_of_ble_eq_true rfl) (by (try dsimp only); exact cm_b (s := 1) (d := 2) c_193 rfl (by unfold isC; decide) hyL (by decide) (fun j h1 h2 => absurd h1 (by omega)) (fun z => k1 ⟨z.1, by have z1 := z.2.1; rw [show ldD 97 1 = 48 from rfl] at z1; exact z1, by have z2 := z.2.2; rw [show gdD 97 1 = 57 from rfl] at z2; exact z2⟩) rfl) dX6_isCommand_223
                  · skip
                    have eA1 : dgA ch L (y + 1) 0 9 = y + 2 := if_pos c_204
                    have eB1 : dgT ((upd (M 11) (4 * tn) (nI (ch y)))) ch L (y + 1) 0 9 (4 * tn + 1) = upd ((upd (M 11) (4 * tn) (nI (ch y)))) (4 * tn + 1) (nI (ch (y + 1) - 48)) := if_pos c_204
                    have k1 : y + 1 < L ∧ 48 + 0 ≤ ch (y + 1) ∧ ch (y + 1) ≤ 48 + 9 := c_204
                    rw [eA1, eB1] at hP hD
                    have hP : va_P K.1 vwCl (mw K h a (hput (hrow M 11 (upd ((upd (M 11) (4 * tn) (nI (ch y)))) (4 * tn + 1) (nI (ch (y + 1) - 48)))) 13 (nI (y + 2)))) H := hP
                    have hD : va_D A (mw K h a (hput (hrow M 11 (upd ((upd (M 11) (4 * tn) (nI (ch y)))) (4 * tn + 1) (nI (ch (y + 1) - 48)))) 13 (nI (y + 2)))) := hD
                    refine lv_aload_n hx hb dX6_isCommand_207 rfl (lv_at hl 1 rfl) ?_
                    refine lv_iconst (v := (2 : Int32)) hx hb dX6_isCommand_208 (by decide) ?_
                    refine lv_iconst (v := (1 : Int32)) hx hb dX6_isCommand_209 (by decide) ?_
                    refine lv_bipush (v := (9 : Int32)) hx hb dX6_isCommand_210 (by decide) ?_
                    refine xw_Vi (As := [.int (2 : Int32), .int (1 : Int32), .int (9 : Int32)]) (rest := []) (wc := mw K h a (hput (hrow M 11 (upd ((upd (M 11) (4 * tn) (nI (ch y)))) (4 * tn + 1) (nI (ch (y + 1) - 48)))) 13 (nI (y + 2)))) (wr := (List.filterMap (fun i => (mw K h a (hput (hrow M 11 (upd ((upd (M 11) (4 * tn) (nI (ch y)))) (4 * tn + 1) (nI (ch (y + 1) - 48)))) 13 (nI (y + 2))) : va_W)[i]?) ([] : List Nat))) ⟨hx, hb, hml, hown, hts⟩ (c_X6_isDigit l K h a (hput (hrow M 11 (upd ((upd (M 11) (4 * tn) (nI (ch y)))) (4 * tn + 1) (nI (ch (y + 1) - 48)))) 13 (nI (y + 2))) 2 (by omega) 1 (by omega) 9 (by omega) L hL0 (by omega) (y + 2) rfl (by omega) tn ht0 (by omega) ch (by first | assumption | omega) H.size) (cwV 3 hts gX6_isCommand_X6_isDigit rfl rfl rfl (by decide +kernel) ⟨Nat.le_of_ble_eq_true rfl, Nat.le_of_ble_eq_true rfl⟩) hK hP hD hS hA [0, 1, 2, 3, 4, 5, 6, 7, 8, 9] [] [0, 1, 2, 3, 4, 5, 6, 7, 8, 9] rfl rfl rfl (fun _u => mw K h a (hput (hrow M 11 (dgT ((upd ((upd (M 11) (4 * tn) (nI (ch y)))) (4 * tn + 1) (nI (ch (y + 1) - 48)))) ch L (y + 2) 1 9 (4 * tn + 2))) 13 (nI (dgA ch L (y + 2) 1 9)))) (fun _ => rfl) 0 6 rfl rfl rfl rfl hl.1 rfl (Nat.le_of_ble_eq_true rfl) (Nat.le_of_ble_eq_true rfl) (Nat.le_of_ble_eq_true rfl) dX6_isCommand_212 (fun r212 _ H locs hq212 hP hD hS => ?_)
                    have hP : va_P K.1 vwCl (mw K h a (hput (hrow M 11 (dgT ((upd ((upd (M 11) (4 * tn) (nI (ch y)))) (4 * tn + 1) (nI (ch (y + 1) - 48)))) ch L (y + 2) 1 9 (4 * tn + 2))) 13 (nI (dgA ch L (y + 2) 1 9)))) H := hP
                    have hD : va_D A (mw K h a (hput (hrow M 11 (dgT ((upd ((upd (M 11) (4 * tn) (nI (ch y)))) (4 * tn + 1) (nI (ch (y + 1) - 48)))) ch L (y + 2) 1 9 (4 * tn + 2))) 13 (nI (dgA ch L (y + 2) 1 9)))) := hD
                    subst hq212
                    refine xb_if_eq (tgt := 222) hx hb dX6_isCommand_215 (by decide) (fun c_215 => ?_) (fun c_215 => ?_)
                    · skip
                      have eA2 : dgA ch L (y + 2) 1 9 = y + 2 := if_neg c_215
                      have eB2 : dgT ((upd ((upd (M 11) (4 * tn) (nI (ch y)))) (4 * tn + 1) (nI (ch (y + 1) - 48)))) ch L (y + 2) 1 9 (4 * tn + 2) = upd ((upd (M 11) (4 * tn) (nI (ch y)))) (4 * tn + 1) (nI (ch (y + 1) - 48)) := if_neg c_215
                      have k2 : ¬ (y + 2 < L ∧ 48 + 1 ≤ ch (y + 2) ∧ ch (y + 2) ≤ 48 + 9) := c_215
                      rw [eA2, eB2] at hP hD
                      have hP : va_P K.1 vwCl (mw K h a (hput (hrow M 11 (upd ((upd (M 11) (4 * tn) (nI (ch y)))) (4 * tn + 1) (nI (ch (y + 1) - 48)))) 13 (nI (y + 2)))) H := hP
                      have hD : va_D A (mw K h a (hput (hrow M 11 (upd ((upd (M 11) (4 * tn) (nI (ch y)))) (4 * tn + 1) (nI (ch (y + 1) - 48)))) 13 (nI (y + 2)))) := hD
                      refine lv_iconst (v := (0 : Int32)) hx hb dX6_isCommand_222 (by decide) ?_
                      exact hend _ _ _ _ _ _ _ (by decide) (upd ((upd (M 11) (4 * tn) (nI (ch y)))) (4 * tn + 1) (nI (ch (y + 1) - 48)), (y + 2)) hP hD hS (Nat.le_of_ble_eq_true rfl) (Nat.le_of_ble_eq_true rfl) (by (try dsimp only); exact cm_b (s := 2) (d := 2) c_193 rfl (by unfold isC; decide) hyL (by decide) (fun j h1 h2 => by rcases (show j = 1 by omega) with rfl; exact (⟨k1.1, by rw [show ldD 97 1 = 48 from rfl]; exact k1.2.1, by rw [show gdD 97 1 = 57 from rfl]; exact k1.2.2⟩)) (fun z => k2 ⟨z.1, by have z1 := z.2.1; rw [show ldD 97 2 = 49 from rfl] at z1; exact z1, by have z2 := z.2.2; rw [show gdD 97 2 = 57 from rfl] at z2; exact z2⟩) rfl) dX6_isCommand_223
                    · skip
                      have eA2 : dgA ch L (y + 2) 1 9 = y + 3 := if_pos c_215
                      have eB2 : dgT ((upd ((upd (M 11) (4 * tn) (nI (ch y)))) (4 * tn + 1) (nI (ch (y + 1) - 48)))) ch L (y + 2) 1 9 (4 * tn + 2) = upd ((upd ((upd (M 11) (4 * tn) (nI (ch y)))) (4 * tn + 1) (nI (ch (y + 1) - 48)))) (4 * tn + 2) (nI (ch (y + 2) - 48)) := if_pos c_215
                      have k2 : y + 2 < L ∧ 48 + 1 ≤ ch (y + 2) ∧ ch (y + 2) ≤ 48 + 9 := c_215
                      rw [eA2, eB2] at hP hD
                      have hP : va_P K.1 vwCl (mw K h a (hput (hrow M 11 (upd ((upd ((upd (M 11) (4 * tn) (nI (ch y)))) (4 * tn + 1) (nI (ch (y + 1) - 48)))) (4 * tn + 2) (nI (ch (y + 2) - 48)))) 13 (nI (y + 3)))) H := hP
                      have hD : va_D A (mw K h a (hput (hrow M 11 (upd ((upd ((upd (M 11) (4 * tn) (nI (ch y)))) (4 * tn + 1) (nI (ch (y + 1) - 48)))) (4 * tn + 2) (nI (ch (y + 2) - 48)))) 13 (nI (y + 3)))) := hD
                      refine lv_iconst (v := (1 : Int32)) hx hb dX6_isCommand_218 (by decide) ?_
                      refine lv_goto (tgt := 223) hx hb dX6_isCommand_219 (by decide) ?_
                      exact hend _ _ _ _ _ _ _ (by decide) (upd ((upd ((upd (M 11) (4 * tn) (nI (ch y)))) (4 * tn + 1) (nI (ch (y + 1) - 48)))) (4 * tn + 2) (nI (ch (y + 2) - 48)), (y + 3)) hP hD hS (Nat.le_of_ble_eq_true rfl) (Nat.le_of_ble_eq_true rfl) (by (try dsimp only); exact cm_g (d := 2) c_193 rfl (by unfold isC; decide) hyL (fun j h1 h2 => by rcases (show j = 1 ∨ j = 2 by omega) with rfl | rfl; exact (⟨k1.1, by rw [show ldD 97 1 = 48 from rfl]; exact k1.2.1, by rw [show gdD 97 1 = 57 from rfl]; exact k1.2.2⟩); exact (⟨k2.1, by rw [show ldD 97 2 = 49 from rfl]; exact k2.2.1, by rw [show gdD 97 2 = 57 from rfl]; exact k2.2.2⟩)) rfl ⟨(by repeat (first | exact pk_us | rw [pk_un (by omega)])), (fun j h1 h2 => by rw [c_193, show dgB 97 = 2 from rfl] at h2; rcases (show j = 1 ∨ j = 2 by omega) with rfl | rfl; exact (by repeat (first | exact pk_us | rw [pk_un (by omega)])); exact (by repeat (first | exact pk_us | rw [pk_un (by omega)]))), fun i hi => (by repeat (first | exact pk_us | rw [pk_un (by omega)]))⟩) dX6_isCommand_223
            · skip
              refine lv_aload_n hx hb dX6_isCommand_159 rfl (lv_at hl 1 rfl) ?_
              refine lv_iconst (v := (1 : Int32)) hx hb dX6_isCommand_160 (by decide) ?_
              refine lv_iconst (v := (0 : Int32)) hx hb dX6_isCommand_161 (by decide) ?_
              refine lv_iconst (v := (5 : Int32)) hx hb dX6_isCommand_162 (by decide) ?_
              refine xw_Vi (As := [.int (1 : Int32), .int (0 : Int32), .int (5 : Int32)]) (rest := []) (wc := mw K h a (hput (hrow M 11 (upd (M 11) (4 * tn) (nI (ch y)))) 13 (nI (y + 1)))) (wr := (List.filterMap (fun i => (mw K h a (hput (hrow M 11 (upd (M 11) (4 * tn) (nI (ch y)))) 13 (nI (y + 1))) : va_W)[i]?) ([] : List Nat))) ⟨hx, hb, hml, hown, hts⟩ (c_X6_isDigit l K h a (hput (hrow M 11 (upd (M 11) (4 * tn) (nI (ch y)))) 13 (nI (y + 1))) 1 (by omega) 0 (by omega) 5 (by omega) L hL0 (by omega) (y + 1) rfl (by omega) tn ht0 (by omega) ch (by first | assumption | omega) H.size) (cwV 3 hts gX6_isCommand_X6_isDigit rfl rfl rfl (by decide +kernel) ⟨Nat.le_of_ble_eq_true rfl, Nat.le_of_ble_eq_true rfl⟩) hK hP hD hS hA [0, 1, 2, 3, 4, 5, 6, 7, 8, 9] [] [0, 1, 2, 3, 4, 5, 6, 7, 8, 9] rfl rfl rfl (fun _u => mw K h a (hput (hrow M 11 (dgT ((upd (M 11) (4 * tn) (nI (ch y)))) ch L (y + 1) 0 5 (4 * tn + 1))) 13 (nI (dgA ch L (y + 1) 0 5)))) (fun _ => rfl) 0 6 rfl rfl rfl rfl hl.1 rfl (Nat.le_of_ble_eq_true rfl) (Nat.le_of_ble_eq_true rfl) (Nat.le_of_ble_eq_true rfl) dX6_isCommand_163 (fun r163 _ H locs hq163 hP hD hS => ?_)
              have hP : va_P K.1 vwCl (mw K h a (hput (hrow M 11 (dgT ((upd (M 11) (4 * tn) (nI (ch y)))) ch L (y + 1) 0 5 (4 * tn + 1))) 13 (nI (dgA ch L (y + 1) 0 5)))) H := hP
              have hD : va_D A (mw K h a (hput (hrow M 11 (dgT ((upd (M 11) (4 * tn) (nI (ch y)))) ch L (y + 1) 0 5 (4 * tn + 1))) 13 (nI (dgA ch L (y + 1) 0 5)))) := hD
              subst hq163
              refine xb_if_eq (tgt := 184) hx hb dX6_isCommand_166 (by decide) (fun c_166 => ?_) (fun c_166 => ?_)
              · skip
                have eA1 : dgA ch L (y + 1) 0 5 = y + 1 := if_neg c_166
                have eB1 : dgT ((upd (M 11) (4 * tn) (nI (ch y)))) ch L (y + 1) 0 5 (4 * tn + 1) = upd (M 11) (4 * tn) (nI (ch y)) := if_neg c_166
                have k1 : ¬ (y + 1 < L ∧ 48 + 0 ≤ ch (y + 1) ∧ ch (y + 1) ≤ 48 + 5) := c_166
                rw [eA1, eB1] at hP hD
                have hP : va_P K.1 vwCl (mw K h a (hput (hrow M 11 (upd (M 11) (4 * tn) (nI (ch y)))) 13 (nI (y + 1)))) H := hP
                have hD : va_D A (mw K h a (hput (hrow M 11 (upd (M 11) (4 * tn) (nI (ch y)))) 13 (nI (y + 1)))) := hD
                refine lv_iconst (v := (0 : Int32)) hx hb dX6_isCommand_184 (by decide) ?_
                exact hend _ _ _ _ _ _ _ (by decide) (upd (M 11) (4 * tn) (nI (ch y)), (y + 1)) hP hD hS (Nat.le_of_ble_eq_true rfl) (Nat.le_of_ble_eq_true rfl) (by (try dsimp only); exact cm_b (s := 1) (d := 2) c_156 rfl (by unfold isC; decide) hyL (by decide) (fun j h1 h2 => absurd h1 (by omega)) (fun z => k1 ⟨z.1, by have z1 := z.2.1; rw [show ldD 102 1 = 48 from rfl] at z1; exact z1, by have z2 := z.2.2; rw [show gdD 102 1 = 53 from rfl] at z2; exact z2⟩) rfl) dX6_isCommand_185
              · skip
                have eA1 : dgA ch L (y + 1) 0 5 = y + 2 := if_pos c_166
                have eB1 : dgT ((upd (M 11) (4 * tn) (nI (ch y)))) ch L (y + 1) 0 5 (4 * tn + 1) = upd ((upd (M 11) (4 * tn) (nI (ch y)))) (4 * tn + 1) (nI (ch (y + 1) - 48)) := if_pos c_166
                have k1 : y + 1 < L ∧ 48 + 0 ≤ ch (y + 1) ∧ ch (y + 1) ≤ 48 + 5 := c_166
                rw [eA1, eB1] at hP hD
                have hP : va_P K.1 vwCl (mw K h a (hput (hrow M 11 (upd ((upd (M 11) (4 * tn) (nI (ch y)))) (4 * tn + 1) (nI (ch (y + 1) - 48)))) 13 (nI (y + 2)))) H := hP
                have hD : va_D A (mw K h a (hput (hrow M 11 (upd ((upd (M 11) (4 * tn) (nI (ch y)))) (4 * tn + 1) (nI (ch (y + 1) - 48)))) 13 (nI (y + 2)))) := hD
                refine lv_aload_n hx hb dX6_isCommand_169 rfl (lv_at hl 1 rfl) ?_
                refine lv_iconst (v := (2 : Int32)) hx hb dX6_isCommand_170 (by decide) ?_
                refine lv_iconst (v := (0 : Int32)) hx hb dX6_isCommand_171 (by decide) ?_
                refine lv_bipush (v := (9 : Int32)) hx hb dX6_isCommand_172 (by decide) ?_
                refine xw_Vi (As := [.int (2 : Int32), .int (0 : Int32), .int (9 : Int32)]) (rest := []) (wc := mw K h a (hput (hrow M 11 (upd ((upd (M 11) (4 * tn) (nI (ch y)))) (4 * tn + 1) (nI (ch (y + 1) - 48)))) 13 (nI (y + 2)))) (wr := (List.filterMap (fun i => (mw K h a (hput (hrow M 11 (upd ((upd (M 11) (4 * tn) (nI (ch y)))) (4 * tn + 1) (nI (ch (y + 1) - 48)))) 13 (nI (y + 2))) : va_W)[i]?) ([] : List Nat))) ⟨hx, hb, hml, hown, hts⟩ (c_X6_isDigit l K h a (hput (hrow M 11 (upd ((upd (M 11) (4 * tn) (nI (ch y)))) (4 * tn + 1) (nI (ch (y + 1) - 48)))) 13 (nI (y + 2))) 2 (by omega) 0 (by omega) 9 (by omega) L hL0 (by omega) (y + 2) rfl (by omega) tn ht0 (by omega) ch (by first | assumption | omega) H.size) (cwV 3 hts gX6_isCommand_X6_isDigit rfl rfl rfl (by decide +kernel) ⟨Nat.le_of_ble_eq_true rfl, Nat.le_of_ble_eq_true rfl⟩) hK hP hD hS hA [0, 1, 2, 3, 4, 5, 6, 7, 8, 9] [] [0, 1, 2, 3, 4, 5, 6, 7, 8, 9] rfl rfl rfl (fun _u => mw K h a (hput (hrow M 11 (dgT ((upd ((upd (M 11) (4 * tn) (nI (ch y)))) (4 * tn + 1) (nI (ch (y + 1) - 48)))) ch L (y + 2) 0 9 (4 * tn + 2))) 13 (nI (dgA ch L (y + 2) 0 9)))) (fun _ => rfl) 0 6 rfl rfl rfl rfl hl.1 rfl (Nat.le_of_ble_eq_true rfl) (Nat.le_of_ble_eq_true rfl) (Nat.le_of_ble_eq_true rfl) dX6_isCommand_174 (fun r174 _ H locs hq174 hP hD hS => ?_)
                have hP : va_P K.1 vwCl (mw K h a (hput (hrow M 11 (dgT ((upd ((upd (M 11) (4 * tn) (nI (ch y)))) (4 * tn + 1) (nI (ch (y + 1) - 48)))) ch L (y + 2) 0 9 (4 * tn + 2))) 13 (nI (dgA ch L (y + 2) 0 9)))) H := hP
                have hD : va_D A (mw K h a (hput (hrow M 11 (dgT ((upd ((upd (M 11) (4 * tn) (nI (ch y)))) (4 * tn + 1) (nI (ch (y + 1) - 48)))) ch L (y + 2) 0 9 (4 * tn + 2))) 13 (nI (dgA ch L (y + 2) 0 9)))) := hD
                subst hq174
                refine xb_if_eq (tgt := 184) hx hb dX6_isCommand_177 (by decide) (fun c_177 => ?_) (fun c_177 => ?_)
                · skip
                  have eA2 : dgA ch L (y + 2) 0 9 = y + 2 := if_neg c_177
                  have eB2 : dgT ((upd ((upd (M 11) (4 * tn) (nI (ch y)))) (4 * tn + 1) (nI (ch (y + 1) - 48)))) ch L (y + 2) 0 9 (4 * tn + 2) = upd ((upd (M 11) (4 * tn) (nI (ch y)))) (4 * tn + 1) (nI (ch (y + 1) - 48)) := if_neg c_177
                  have k2 : ¬ (y + 2 < L ∧ 48 + 0 ≤ ch (y + 2) ∧ ch (y + 2) ≤ 48 + 9) := c_177
                  rw [eA2, eB2] at hP hD
                  have hP : va_P K.1 vwCl (mw K h a (hput (hrow M 11 (upd ((upd (M 11) (4 * tn) (nI (ch y)))) (4 * tn + 1) (nI (ch (y + 1) - 48)))) 13 (nI (y + 2)))) H := hP
                  have hD : va_D A (mw K h a (hput (hrow M 11 (upd ((upd (M 11) (4 * tn) (nI (ch y)))) (4 * tn + 1) (nI (ch (y + 1) - 48)))) 13 (nI (y + 2)))) := hD
                  refine lv_iconst (v := (0 : Int32)) hx hb dX6_isCommand_184 (by decide) ?_
                  exact hend _ _ _ _ _ _ _ (by decide) (upd ((upd (M 11) (4 * tn) (nI (ch y)))) (4 * tn + 1) (nI (ch (y + 1) - 48)), (y + 2)) hP hD hS (Nat.le_of_ble_eq_true rfl) (Nat.le_of_ble_eq_true rfl) (by (try dsimp only); exact cm_b (s := 2) (d := 2) c_156 rfl (by unfold isC; decide) hyL (by decide) (fun j h1 h2 => by rcases (show j = 1 by omega) with rfl; exact (⟨k1.1, by rw [show ldD 102 1 = 48 from rfl]; exact k1.2.1, by rw [show gdD 102 1 = 53 from rfl]; exact k1.2.2⟩)) (fun z => k2 ⟨z.1, by have z1 := z.2.1; rw [show ldD 102 2 = 48 from rfl] at z1; exact z1, by have z2 := z.2.2; rw [show gdD 102 2 = 57 from rfl] at z2; exact z2⟩) rfl) dX6_isCommand_185
                · skip
                  have eA2 : dgA ch L (y + 2) 0 9 = y + 3 := if_pos c_177
                  have eB2 : dgT ((upd ((upd (M 11) (4 * tn) (nI (ch y)))) (4 * tn + 1) (nI (ch (y + 1) - 48)))) ch L (y + 2) 0 9 (4 * tn + 2) = upd ((upd ((upd (M 11) (4 * tn) (nI (ch y)))) (4 * tn + 1) (nI (ch (y + 1) - 48)))) (4 * tn + 2) (nI (ch (y + 2) - 48)) := if_pos c_177
                  have k2 : y + 2 < L ∧ 48 + 0 ≤ ch (y + 2) ∧ ch (y + 2) ≤ 48 + 9 := c_177
                  rw [eA2, eB2] at hP hD
                  have hP : va_P K.1 vwCl (mw K h a (hput (hrow M 11 (upd ((upd ((upd (M 11) (4 * tn) (nI (ch y)))) (4 * tn + 1) (nI (ch (y + 1) - 48)))) (4 * tn + 2) (nI (ch (y + 2) - 48)))) 13 (nI (y + 3)))) H := hP
                  have hD : va_D A (mw K h a (hput (hrow M 11 (upd ((upd ((upd (M 11) (4 * tn) (nI (ch y)))) (4 * tn + 1) (nI (ch (y + 1) - 48)))) (4 * tn + 2) (nI (ch (y + 2) - 48)))) 13 (nI (y + 3)))) := hD
                  refine lv_iconst (v := (1 : Int32)) hx hb dX6_isCommand_180 (by decide) ?_
                  refine lv_goto (tgt := 185) hx hb dX6_isCommand_181 (by decide) ?_
                  exact hend _ _ _ _ _ _ _ (by decide) (upd ((upd ((upd (M 11) (4 * tn) (nI (ch y)))) (4 * tn + 1) (nI (ch (y + 1) - 48)))) (4 * tn + 2) (nI (ch (y + 2) - 48)), (y + 3)) hP hD hS (Nat.le_of_ble_eq_true rfl) (Nat.le_of_ble_eq_true rfl) (by (try dsimp only); exact cm_g (d := 2) c_156 rfl (by unfold isC; decide) hyL (fun j h1 h2 => by rcases (show j = 1 ∨ j = 2 by omega) with rfl | rfl; exact (⟨k1.1, by rw [show ldD 102 1 = 48 from rfl]; exact k1.2.1, by rw [show gdD 102 1 = 53 from rfl]; exact k1.2.2⟩); exact (⟨k2.1, by rw [show ldD 102 2 = 48 from rfl]; exact k2.2.1, by rw [show gdD 102 2 = 57 from rfl]; exact k2.2.2⟩)) rfl ⟨(by repeat (first | exact pk_us | rw [pk_un (by omega)])), (fun j h1 h2 => by rw [c_156, show dgB 102 = 2 from rfl] at h2; rcases (show j = 1 ∨ j = 2 by omega) with rfl | rfl; exact (by repeat (first | exact pk_us | rw [pk_un (by omega)])); exact (by repeat (first | exact pk_us | rw [pk_un (by omega)]))), fun i hi => (by repeat (first | exact pk_us | rw [pk_un (by omega)]))⟩) dX6_isCommand_185
          · skip
            refine lv_aload_n hx hb dX6_isCommand_115 rfl (lv_at hl 1 rfl) ?_
            refine lv_iconst (v := (1 : Int32)) hx hb dX6_isCommand_116 (by decide) ?_
            refine lv_iconst (v := (0 : Int32)) hx hb dX6_isCommand_117 (by decide) ?_
            refine lv_bipush (v := (9 : Int32)) hx hb dX6_isCommand_118 (by decide) ?_
            refine xw_Vi (As := [.int (1 : Int32), .int (0 : Int32), .int (9 : Int32)]) (rest := []) (wc := mw K h a (hput (hrow M 11 (upd (M 11) (4 * tn) (nI (ch y)))) 13 (nI (y + 1)))) (wr := (List.filterMap (fun i => (mw K h a (hput (hrow M 11 (upd (M 11) (4 * tn) (nI (ch y)))) 13 (nI (y + 1))) : va_W)[i]?) ([] : List Nat))) ⟨hx, hb, hml, hown, hts⟩ (c_X6_isDigit l K h a (hput (hrow M 11 (upd (M 11) (4 * tn) (nI (ch y)))) 13 (nI (y + 1))) 1 (by omega) 0 (by omega) 9 (by omega) L hL0 (by omega) (y + 1) rfl (by omega) tn ht0 (by omega) ch (by first | assumption | omega) H.size) (cwV 3 hts gX6_isCommand_X6_isDigit rfl rfl rfl (by decide +kernel) ⟨Nat.le_of_ble_eq_true rfl, Nat.le_of_ble_eq_true rfl⟩) hK hP hD hS hA [0, 1, 2, 3, 4, 5, 6, 7, 8, 9] [] [0, 1, 2, 3, 4, 5, 6, 7, 8, 9] rfl rfl rfl (fun _u => mw K h a (hput (hrow M 11 (dgT ((upd (M 11) (4 * tn) (nI (ch y)))) ch L (y + 1) 0 9 (4 * tn + 1))) 13 (nI (dgA ch L (y + 1) 0 9)))) (fun _ => rfl) 0 6 rfl rfl rfl rfl hl.1 rfl (Nat.le_of_ble_eq_true rfl) (Nat.le_of_ble_eq_true rfl) (Nat.le_of_ble_eq_true rfl) dX6_isCommand_120 (fun r120 _ H locs hq120 hP hD hS => ?_)
            have hP : va_P K.1 vwCl (mw K h a (hput (hrow M 11 (dgT ((upd (M 11) (4 * tn) (nI (ch y)))) ch L (y + 1) 0 9 (4 * tn + 1))) 13 (nI (dgA ch L (y + 1) 0 9)))) H := hP
            have hD : va_D A (mw K h a (hput (hrow M 11 (dgT ((upd (M 11) (4 * tn) (nI (ch y)))) ch L (y + 1) 0 9 (4 * tn + 1))) 13 (nI (dgA ch L (y + 1) 0 9)))) := hD
            subst hq120
            refine xb_if_eq (tgt := 151) hx hb dX6_isCommand_123 (by decide) (fun c_123 => ?_) (fun c_123 => ?_)
            · skip
              have eA1 : dgA ch L (y + 1) 0 9 = y + 1 := if_neg c_123
              have eB1 : dgT ((upd (M 11) (4 * tn) (nI (ch y)))) ch L (y + 1) 0 9 (4 * tn + 1) = upd (M 11) (4 * tn) (nI (ch y)) := if_neg c_123
              have k1 : ¬ (y + 1 < L ∧ 48 + 0 ≤ ch (y + 1) ∧ ch (y + 1) ≤ 48 + 9) := c_123
              rw [eA1, eB1] at hP hD
              have hP : va_P K.1 vwCl (mw K h a (hput (hrow M 11 (upd (M 11) (4 * tn) (nI (ch y)))) 13 (nI (y + 1)))) H := hP
              have hD : va_D A (mw K h a (hput (hrow M 11 (upd (M 11) (4 * tn) (nI (ch y)))) 13 (nI (y + 1)))) := hD
              refine lv_iconst (v := (0 : Int32)) hx hb dX6_isCommand_151 (by decide) ?_
              exact hend _ _ _ _ _ _ _ (by decide) (upd (M 11) (4 * tn) (nI (ch y)), (y + 1)) hP hD hS (Nat.le_of_ble_eq_true rfl) (Nat.le_of_ble_eq_true rfl) (by (try dsimp only); exact cm_b (s := 1) (d := 3) c_112 rfl (by unfold isC; decide) hyL (by decide) (fun j h1 h2 => absurd h1 (by omega)) (fun z => k1 ⟨z.1, by have z1 := z.2.1; rw [show ldD 121 1 = 48 from rfl] at z1; exact z1, by have z2 := z.2.2; rw [show gdD 121 1 = 57 from rfl] at z2; exact z2⟩) rfl) dX6_isCommand_152
            · skip
              have eA1 : dgA ch L (y + 1) 0 9 = y + 2 := if_pos c_123
              have eB1 : dgT ((upd (M 11) (4 * tn) (nI (ch y)))) ch L (y + 1) 0 9 (4 * tn + 1) = upd ((upd (M 11) (4 * tn) (nI (ch y)))) (4 * tn + 1) (nI (ch (y + 1) - 48)) := if_pos c_123
              have k1 : y + 1 < L ∧ 48 + 0 ≤ ch (y + 1) ∧ ch (y + 1) ≤ 48 + 9 := c_123
              rw [eA1, eB1] at hP hD
              have hP : va_P K.1 vwCl (mw K h a (hput (hrow M 11 (upd ((upd (M 11) (4 * tn) (nI (ch y)))) (4 * tn + 1) (nI (ch (y + 1) - 48)))) 13 (nI (y + 2)))) H := hP
              have hD : va_D A (mw K h a (hput (hrow M 11 (upd ((upd (M 11) (4 * tn) (nI (ch y)))) (4 * tn + 1) (nI (ch (y + 1) - 48)))) 13 (nI (y + 2)))) := hD
              refine lv_aload_n hx hb dX6_isCommand_126 rfl (lv_at hl 1 rfl) ?_
              refine lv_iconst (v := (2 : Int32)) hx hb dX6_isCommand_127 (by decide) ?_
              refine lv_iconst (v := (0 : Int32)) hx hb dX6_isCommand_128 (by decide) ?_
              refine lv_iconst (v := (5 : Int32)) hx hb dX6_isCommand_129 (by decide) ?_
              refine xw_Vi (As := [.int (2 : Int32), .int (0 : Int32), .int (5 : Int32)]) (rest := []) (wc := mw K h a (hput (hrow M 11 (upd ((upd (M 11) (4 * tn) (nI (ch y)))) (4 * tn + 1) (nI (ch (y + 1) - 48)))) 13 (nI (y + 2)))) (wr := (List.filterMap (fun i => (mw K h a (hput (hrow M 11 (upd ((upd (M 11) (4 * tn) (nI (ch y)))) (4 * tn + 1) (nI (ch (y + 1) - 48)))) 13 (nI (y + 2))) : va_W)[i]?) ([] : List Nat))) ⟨hx, hb, hml, hown, hts⟩ (c_X6_isDigit l K h a (hput (hrow M 11 (upd ((upd (M 11) (4 * tn) (nI (ch y)))) (4 * tn + 1) (nI (ch (y + 1) - 48)))) 13 (nI (y + 2))) 2 (by omega) 0 (by omega) 5 (by omega) L hL0 (by omega) (y + 2) rfl (by omega) tn ht0 (by omega) ch (by first | assumption | omega) H.size) (cwV 3 hts gX6_isCommand_X6_isDigit rfl rfl rfl (by decide +kernel) ⟨Nat.le_of_ble_eq_true rfl, Nat.le_of_ble_eq_true rfl⟩) hK hP hD hS hA [0, 1, 2, 3, 4, 5, 6, 7, 8, 9] [] [0, 1, 2, 3, 4, 5, 6, 7, 8, 9] rfl rfl rfl (fun _u => mw K h a (hput (hrow M 11 (dgT ((upd ((upd (M 11) (4 * tn) (nI (ch y)))) (4 * tn + 1) (nI (ch (y + 1) - 48)))) ch L (y + 2) 0 5 (4 * tn + 2))) 13 (nI (dgA ch L (y + 2) 0 5)))) (fun _ => rfl) 0 6 rfl rfl rfl rfl hl.1 rfl (Nat.le_of_ble_eq_true rfl) (Nat.le_of_ble_eq_true rfl) (Nat.le_of_ble_eq_true rfl) dX6_isCommand_130 (fun r130 _ H locs hq130 hP hD hS => ?_)
              have hP : va_P K.1 vwCl (mw K h a (hput (hrow M 11 (dgT ((upd ((upd (M 11) (4 * tn) (nI (ch y)))) (4 * tn + 1) (nI (ch (y + 1) - 48)))) ch L (y + 2) 0 5 (4 * tn + 2))) 13 (nI (dgA ch L (y + 2) 0 5)))) H := hP
              have hD : va_D A (mw K h a (hput (hrow M 11 (dgT ((upd ((upd (M 11) (4 * tn) (nI (ch y)))) (4 * tn + 1) (nI (ch (y + 1) - 48)))) ch L (y + 2) 0 5 (4 * tn + 2))) 13 (nI (dgA ch L (y + 2) 0 5)))) := hD
              subst hq130
              refine xb_if_eq (tgt := 151) hx hb dX6_isCommand_133 (by decide) (fun c_133 => ?_) (fun c_133 => ?_)
              · skip
                have eA2 : dgA ch L (y + 2) 0 5 = y + 2 := if_neg c_133
                have eB2 : dgT ((upd ((upd (M 11) (4 * tn) (nI (ch y)))) (4 * tn + 1) (nI (ch (y + 1) - 48)))) ch L (y + 2) 0 5 (4 * tn + 2) = upd ((upd (M 11) (4 * tn) (nI (ch y)))) (4 * tn + 1) (nI (ch (y + 1) - 48)) := if_neg c_133
                have k2 : ¬ (y + 2 < L ∧ 48 + 0 ≤ ch (y + 2) ∧ ch (y + 2) ≤ 48 + 5) := c_133
                rw [eA2, eB2] at hP hD
                have hP : va_P K.1 vwCl (mw K h a (hput (hrow M 11 (upd ((upd (M 11) (4 * tn) (nI (ch y)))) (4 * tn + 1) (nI (ch (y + 1) - 48)))) 13 (nI (y + 2)))) H := hP
                have hD : va_D A (mw K h a (hput (hrow M 11 (upd ((upd (M 11) (4 * tn) (nI (ch y)))) (4 * tn + 1) (nI (ch (y + 1) - 48)))) 13 (nI (y + 2)))) := hD
                refine lv_iconst (v := (0 : Int32)) hx hb dX6_isCommand_151 (by decide) ?_
                exact hend _ _ _ _ _ _ _ (by decide) (upd ((upd (M 11) (4 * tn) (nI (ch y)))) (4 * tn + 1) (nI (ch (y + 1) - 48)), (y + 2)) hP hD hS (Nat.le_of_ble_eq_true rfl) (Nat.le_of_ble_eq_true rfl) (by (try dsimp only); exact cm_b (s := 2) (d := 3) c_112 rfl (by unfold isC; decide) hyL (by decide) (fun j h1 h2 => by rcases (show j = 1 by omega) with rfl; exact (⟨k1.1, by rw [show ldD 121 1 = 48 from rfl]; exact k1.2.1, by rw [show gdD 121 1 = 57 from rfl]; exact k1.2.2⟩)) (fun z => k2 ⟨z.1, by have z1 := z.2.1; rw [show ldD 121 2 = 48 from rfl] at z1; exact z1, by have z2 := z.2.2; rw [show gdD 121 2 = 53 from rfl] at z2; exact z2⟩) rfl) dX6_isCommand_152
              · skip
                have eA2 : dgA ch L (y + 2) 0 5 = y + 3 := if_pos c_133
                have eB2 : dgT ((upd ((upd (M 11) (4 * tn) (nI (ch y)))) (4 * tn + 1) (nI (ch (y + 1) - 48)))) ch L (y + 2) 0 5 (4 * tn + 2) = upd ((upd ((upd (M 11) (4 * tn) (nI (ch y)))) (4 * tn + 1) (nI (ch (y + 1) - 48)))) (4 * tn + 2) (nI (ch (y + 2) - 48)) := if_pos c_133
                have k2 : y + 2 < L ∧ 48 + 0 ≤ ch (y + 2) ∧ ch (y + 2) ≤ 48 + 5 := c_133
                rw [eA2, eB2] at hP hD
                have hP : va_P K.1 vwCl (mw K h a (hput (hrow M 11 (upd ((upd ((upd (M 11) (4 * tn) (nI (ch y)))) (4 * tn + 1) (nI (ch (y + 1) - 48)))) (4 * tn + 2) (nI (ch (y + 2) - 48)))) 13 (nI (y + 3)))) H := hP
                have hD : va_D A (mw K h a (hput (hrow M 11 (upd ((upd ((upd (M 11) (4 * tn) (nI (ch y)))) (4 * tn + 1) (nI (ch (y + 1) - 48)))) (4 * tn + 2) (nI (ch (y + 2) - 48)))) 13 (nI (y + 3)))) := hD
                refine lv_aload_n hx hb dX6_isCommand_136 rfl (lv_at hl 1 rfl) ?_
                refine lv_iconst (v := (3 : Int32)) hx hb dX6_isCommand_137 (by decide) ?_
                refine lv_iconst (v := (0 : Int32)) hx hb dX6_isCommand_138 (by decide) ?_
                refine lv_bipush (v := (9 : Int32)) hx hb dX6_isCommand_139 (by decide) ?_
                refine xw_Vi (As := [.int (3 : Int32), .int (0 : Int32), .int (9 : Int32)]) (rest := []) (wc := mw K h a (hput (hrow M 11 (upd ((upd ((upd (M 11) (4 * tn) (nI (ch y)))) (4 * tn + 1) (nI (ch (y + 1) - 48)))) (4 * tn + 2) (nI (ch (y + 2) - 48)))) 13 (nI (y + 3)))) (wr := (List.filterMap (fun i => (mw K h a (hput (hrow M 11 (upd ((upd ((upd (M 11) (4 * tn) (nI (ch y)))) (4 * tn + 1) (nI (ch (y + 1) - 48)))) (4 * tn + 2) (nI (ch (y + 2) - 48)))) 13 (nI (y + 3))) : va_W)[i]?) ([] : List Nat))) ⟨hx, hb, hml, hown, hts⟩ (c_X6_isDigit l K h a (hput (hrow M 11 (upd ((upd ((upd (M 11) (4 * tn) (nI (ch y)))) (4 * tn + 1) (nI (ch (y + 1) - 48)))) (4 * tn + 2) (nI (ch (y + 2) - 48)))) 13 (nI (y + 3))) 3 (by omega) 0 (by omega) 9 (by omega) L hL0 (by omega) (y + 3) rfl (by omega) tn ht0 (by omega) ch (by first | assumption | omega) H.size) (cwV 3 hts gX6_isCommand_X6_isDigit rfl rfl rfl (by decide +kernel) ⟨Nat.le_of_ble_eq_true rfl, Nat.le_of_ble_eq_true rfl⟩) hK hP hD hS hA [0, 1, 2, 3, 4, 5, 6, 7, 8, 9] [] [0, 1, 2, 3, 4, 5, 6, 7, 8, 9] rfl rfl rfl (fun _u => mw K h a (hput (hrow M 11 (dgT ((upd ((upd ((upd (M 11) (4 * tn) (nI (ch y)))) (4 * tn + 1) (nI (ch (y + 1) - 48)))) (4 * tn + 2) (nI (ch (y + 2) - 48)))) ch L (y + 3) 0 9 (4 * tn + 3))) 13 (nI (dgA ch L (y + 3) 0 9)))) (fun _ => rfl) 0 6 rfl rfl rfl rfl hl.1 rfl (Nat.le_of_ble_eq_true rfl) (Nat.le_of_ble_eq_true rfl) (Nat.le_of_ble_eq_true rfl) dX6_isCommand_141 (fun r141 _ H locs hq141 hP hD hS => ?_)
                have hP : va_P K.1 vwCl (mw K h a (hput (hrow M 11 (dgT ((upd ((upd ((upd (M 11) (4 * tn) (nI (ch y)))) (4 * tn + 1) (nI (ch (y + 1) - 48)))) (4 * tn + 2) (nI (ch (y + 2) - 48)))) ch L (y + 3) 0 9 (4 * tn + 3))) 13 (nI (dgA ch L (y + 3) 0 9)))) H := hP
                have hD : va_D A (mw K h a (hput (hrow M 11 (dgT ((upd ((upd ((upd (M 11) (4 * tn) (nI (ch y)))) (4 * tn + 1) (nI (ch (y + 1) - 48)))) (4 * tn + 2) (nI (ch (y + 2) - 48)))) ch L (y + 3) 0 9 (4 * tn + 3))) 13 (nI (dgA ch L (y + 3) 0 9)))) := hD
                subst hq141
                refine xb_if_eq (tgt := 151) hx hb dX6_isCommand_144 (by decide) (fun c_144 => ?_) (fun c_144 => ?_)
                · skip
                  have eA3 : dgA ch L (y + 3) 0 9 = y + 3 := if_neg c_144
                  have eB3 : dgT ((upd ((upd ((upd (M 11) (4 * tn) (nI (ch y)))) (4 * tn + 1) (nI (ch (y + 1) - 48)))) (4 * tn + 2) (nI (ch (y + 2) - 48)))) ch L (y + 3) 0 9 (4 * tn + 3) = upd ((upd ((upd (M 11) (4 * tn) (nI (ch y)))) (4 * tn + 1) (nI (ch (y + 1) - 48)))) (4 * tn + 2) (nI (ch (y + 2) - 48)) := if_neg c_144
                  have k3 : ¬ (y + 3 < L ∧ 48 + 0 ≤ ch (y + 3) ∧ ch (y + 3) ≤ 48 + 9) := c_144
                  rw [eA3, eB3] at hP hD
                  have hP : va_P K.1 vwCl (mw K h a (hput (hrow M 11 (upd ((upd ((upd (M 11) (4 * tn) (nI (ch y)))) (4 * tn + 1) (nI (ch (y + 1) - 48)))) (4 * tn + 2) (nI (ch (y + 2) - 48)))) 13 (nI (y + 3)))) H := hP
                  have hD : va_D A (mw K h a (hput (hrow M 11 (upd ((upd ((upd (M 11) (4 * tn) (nI (ch y)))) (4 * tn + 1) (nI (ch (y + 1) - 48)))) (4 * tn + 2) (nI (ch (y + 2) - 48)))) 13 (nI (y + 3)))) := hD
                  refine lv_iconst (v := (0 : Int32)) hx hb dX6_isCommand_151 (by decide) ?_
                  exact hend _ _ _ _ _ _ _ (by decide) (upd ((upd ((upd (M 11) (4 * tn) (nI (ch y)))) (4 * tn + 1) (nI (ch (y + 1) - 48)))) (4 * tn + 2) (nI (ch (y + 2) - 48)), (y + 3)) hP hD hS (Nat.le_of_ble_eq_true rfl) (Nat.le_of_ble_eq_true rfl) (by (try dsimp only); exact cm_b (s := 3) (d := 3) c_112 rfl (by unfold isC; decide) hyL (by decide) (fun j h1 h2 => by rcases (show j = 1 ∨ j = 2 by omega) with rfl | rfl; exact (⟨k1.1, by rw [show ldD 121 1 = 48 from rfl]; exact k1.2.1, by rw [show gdD 121 1 = 57 from rfl]; exact k1.2.2⟩); exact (⟨k2.1, by rw [show ldD 121 2 = 48 from rfl]; exact k2.2.1, by rw [show gdD 121 2 = 53 from rfl]; exact k2.2.2⟩)) (fun z => k3 ⟨z.1, by have z1 := z.2.1; rw [show ldD 121 3 = 48 from rfl] at z1; exact z1, by have z2 := z.2.2; rw [show gdD 121 3 = 57 from rfl] at z2; exact z2⟩) rfl) dX6_isCommand_152
                · skip
                  have eA3 : dgA ch L (y + 3) 0 9 = y + 4 := if_pos c_144
                  have eB3 : dgT ((upd ((upd ((upd (M 11) (4 * tn) (nI (ch y)))) (4 * tn + 1) (nI (ch (y + 1) - 48)))) (4 * tn + 2) (nI (ch (y + 2) - 48)))) ch L (y + 3) 0 9 (4 * tn + 3) = upd ((upd ((upd ((upd (M 11) (4 * tn) (nI (ch y)))) (4 * tn + 1) (nI (ch (y + 1) - 48)))) (4 * tn + 2) (nI (ch (y + 2) - 48)))) (4 * tn + 3) (nI (ch (y + 3) - 48)) := if_pos c_144
                  have k3 : y + 3 < L ∧ 48 + 0 ≤ ch (y + 3) ∧ ch (y + 3) ≤ 48 + 9 := c_144
                  rw [eA3, eB3] at hP hD
                  have hP : va_P K.1 vwCl (mw K h a (hput (hrow M 11 (upd ((upd ((upd ((upd (M 11) (4 * tn) (nI (ch y)))) (4 * tn + 1) (nI (ch (y + 1) - 48)))) (4 * tn + 2) (nI (ch (y + 2) - 48)))) (4 * tn + 3) (nI (ch (y + 3) - 48)))) 13 (nI (y + 4)))) H := hP
                  have hD : va_D A (mw K h a (hput (hrow M 11 (upd ((upd ((upd ((upd (M 11) (4 * tn) (nI (ch y)))) (4 * tn + 1) (nI (ch (y + 1) - 48)))) (4 * tn + 2) (nI (ch (y + 2) - 48)))) (4 * tn + 3) (nI (ch (y + 3) - 48)))) 13 (nI (y + 4)))) := hD
                  refine lv_iconst (v := (1 : Int32)) hx hb dX6_isCommand_147 (by decide) ?_
                  refine lv_goto (tgt := 152) hx hb dX6_isCommand_148 (by decide) ?_
                  exact hend _ _ _ _ _ _ _ (by decide) (upd ((upd ((upd ((upd (M 11) (4 * tn) (nI (ch y)))) (4 * tn + 1) (nI (ch (y + 1) - 48)))) (4 * tn + 2) (nI (ch (y + 2) - 48)))) (4 * tn + 3) (nI (ch (y + 3) - 48)), (y + 4)) hP hD hS (Nat.le_of_ble_eq_true rfl) (Nat.le_of_ble_eq_true rfl) (by (try dsimp only); exact cm_g (d := 3) c_112 rfl (by unfold isC; decide) hyL (fun j h1 h2 => by rcases (show j = 1 ∨ j = 2 ∨ j = 3 by omega) with rfl | rfl | rfl; exact (⟨k1.1, by rw [show ldD 121 1 = 48 from rfl]; exact k1.2.1, by rw [show gdD 121 1 = 57 from rfl]; exact k1.2.2⟩); exact (⟨k2.1, by rw [show ldD 121 2 = 48 from rfl]; exact k2.2.1, by rw [show gdD 121 2 = 53 from rfl]; exact k2.2.2⟩); exact (⟨k3.1, by rw [show ldD 121 3 = 48 from rfl]; exact k3.2.1, by rw [show gdD 121 3 = 57 from rfl]; exact k3.2.2⟩)) rfl ⟨(by repeat (first | exact pk_us | rw [pk_un (by omega)])), (fun j h1 h2 => by rw [c_112, show dgB 121 = 3 from rfl] at h2; rcases (show j = 1 ∨ j = 2 ∨ j = 3 by omega) with rfl | rfl | rfl; exact (by repeat (first | exact pk_us | rw [pk_un (by omega)])); exact (by repeat (first | exact pk_us | rw [pk_un (by omega)])); exact (by repeat (first | exact pk_us | rw [pk_un (by omega)]))), fun i hi => (by repeat (first | exact pk_us | rw [pk_un (by omega)]))⟩) dX6_isCommand_152
        · skip
          refine lv_aload_n hx hb dX6_isCommand_100 rfl (lv_at hl 1 rfl) ?_
          refine lv_iconst (v := (1 : Int32)) hx hb dX6_isCommand_101 (by decide) ?_
          refine lv_iconst (v := (1 : Int32)) hx hb dX6_isCommand_102 (by decide) ?_
          refine lv_bipush (v := (9 : Int32)) hx hb dX6_isCommand_103 (by decide) ?_
          refine xw_Vi (As := [.int (1 : Int32), .int (1 : Int32), .int (9 : Int32)]) (rest := []) (wc := mw K h a (hput (hrow M 11 (upd (M 11) (4 * tn) (nI (ch y)))) 13 (nI (y + 1)))) (wr := (List.filterMap (fun i => (mw K h a (hput (hrow M 11 (upd (M 11) (4 * tn) (nI (ch y)))) 13 (nI (y + 1))) : va_W)[i]?) ([] : List Nat))) ⟨hx, hb, hml, hown, hts⟩ (c_X6_isDigit l K h a (hput (hrow M 11 (upd (M 11) (4 * tn) (nI (ch y)))) 13 (nI (y + 1))) 1 (by omega) 1 (by omega) 9 (by omega) L hL0 (by omega) (y + 1) rfl (by omega) tn ht0 (by omega) ch (by first | assumption | omega) H.size) (cwV 3 hts gX6_isCommand_X6_isDigit rfl rfl rfl (by decide +kernel) ⟨Nat.le_of_ble_eq_true rfl, Nat.le_of_ble_eq_true rfl⟩) hK hP hD hS hA [0, 1, 2, 3, 4, 5, 6, 7, 8, 9] [] [0, 1, 2, 3, 4, 5, 6, 7, 8, 9] rfl rfl rfl (fun _u => mw K h a (hput (hrow M 11 (dgT ((upd (M 11) (4 * tn) (nI (ch y)))) ch L (y + 1) 1 9 (4 * tn + 1))) 13 (nI (dgA ch L (y + 1) 1 9)))) (fun _ => rfl) 0 6 rfl rfl rfl rfl hl.1 rfl (Nat.le_of_ble_eq_true rfl) (Nat.le_of_ble_eq_true rfl) (Nat.le_of_ble_eq_true rfl) dX6_isCommand_105 (fun r105 _ H locs hq105 hP hD hS => ?_)
          have hP : va_P K.1 vwCl (mw K h a (hput (hrow M 11 (dgT ((upd (M 11) (4 * tn) (nI (ch y)))) ch L (y + 1) 1 9 (4 * tn + 1))) 13 (nI (dgA ch L (y + 1) 1 9)))) H := hP
          have hD : va_D A (mw K h a (hput (hrow M 11 (dgT ((upd (M 11) (4 * tn) (nI (ch y)))) ch L (y + 1) 1 9 (4 * tn + 1))) 13 (nI (dgA ch L (y + 1) 1 9)))) := hD
          subst hq105
          exact hend _ _ _ _ _ _ _ (bI_narrow) (dgT ((upd (M 11) (4 * tn) (nI (ch y)))) ch L (y + 1) 1 9 (4 * tn + 1), (dgA ch L (y + 1) 1 9)) hP hD hS (Nat.le_of_ble_eq_true rfl) (Nat.le_of_ble_eq_true rfl) (by (try dsimp only); by_cases k0 : dgK ch L (y + 1) 1 9; (have k1 : y + 1 < L ∧ 48 + 1 ≤ ch (y + 1) ∧ ch (y + 1) ≤ 48 + 9 := k0; rw [bI_t k0]; unfold dgT dgA; rw [if_pos k0, if_pos k0]; exact cm_g (d := 1) c_97 rfl (by unfold isC; decide) hyL (fun j h1 h2 => by rcases (show j = 1 by omega) with rfl; exact (⟨k1.1, by rw [show ldD 100 1 = 49 from rfl]; exact k1.2.1, by rw [show gdD 100 1 = 57 from rfl]; exact k1.2.2⟩)) rfl ⟨(by repeat (first | exact pk_us | rw [pk_un (by omega)])), (fun j h1 h2 => by rw [c_97, show dgB 100 = 1 from rfl] at h2; rcases (show j = 1 by omega) with rfl; exact (by repeat (first | exact pk_us | rw [pk_un (by omega)]))), fun i hi => (by repeat (first | exact pk_us | rw [pk_un (by omega)]))⟩); (have k1 : ¬ (y + 1 < L ∧ 48 + 1 ≤ ch (y + 1) ∧ ch (y + 1) ≤ 48 + 9) := k0; rw [bI_f k0]; unfold dgT dgA; rw [if_neg k0, if_neg k0]; exact cm_b (s := 1) (d := 1) c_97 rfl (by unfold isC; decide) hyL (by decide) (fun j h1 h2 => absurd h1 (by omega)) (fun z => k1 ⟨z.1, by have z1 := z.2.1; rw [show ldD 100 1 = 49 from rfl] at z1; exact z1, by have z2 := z.2.2; rw [show gdD 100 1 = 57 from rfl] at z2; exact z2⟩) rfl)) dX6_isCommand_108
  refine lv_bipush (v := (114 : Int32)) hx hb dX6_isCommand_23 (by decide) ?_
  refine xn_icmp_eq (tgt := 64) hx hb (ch y) 114 rfl rfl (by omega) (by decide) dX6_isCommand_25 (by decide) (fun c_25 => ?_) (fun c_25 => ?_)
  · skip
    refine lv_iconst (v := (1 : Int32)) hx hb dX6_isCommand_64 (by decide) ?_
    refine lv_goto (tgt := 69) hx hb dX6_isCommand_65 (by decide) ?_
    have e1 : (1 : Int32) = bI (isC (ch y)) := by first | exact (bI_t (isC_of (by omega))).symm | exact (bI_f (fun z => absurd (isC_to z) (by omega))).symm
    rw [e1]
    exact jn69 _ _ _ hP hD hS (lv_cons (lv_at hl 1 rfl) (lv_cons (lv_at hl 0 rfl) (lv_nil hl)))
  · skip
    refine lv_iload_n hx hb dX6_isCommand_28 rfl (lv_at hl 0 rfl) ?_
    refine lv_bipush (v := (112 : Int32)) hx hb dX6_isCommand_29 (by decide) ?_
    refine xn_icmp_eq (tgt := 64) hx hb (ch y) 112 rfl rfl (by omega) (by decide) dX6_isCommand_31 (by decide) (fun c_31 => ?_) (fun c_31 => ?_)
    · skip
      refine lv_iconst (v := (1 : Int32)) hx hb dX6_isCommand_64 (by decide) ?_
      refine lv_goto (tgt := 69) hx hb dX6_isCommand_65 (by decide) ?_
      have e2 : (1 : Int32) = bI (isC (ch y)) := by first | exact (bI_t (isC_of (by omega))).symm | exact (bI_f (fun z => absurd (isC_to z) (by omega))).symm
      rw [e2]
      exact jn69 _ _ _ hP hD hS (lv_cons (lv_at hl 1 rfl) (lv_cons (lv_at hl 0 rfl) (lv_nil hl)))
    · skip
      refine lv_iload_n hx hb dX6_isCommand_34 rfl (lv_at hl 0 rfl) ?_
      refine lv_bipush (v := (121 : Int32)) hx hb dX6_isCommand_35 (by decide) ?_
      refine xn_icmp_eq (tgt := 64) hx hb (ch y) 121 rfl rfl (by omega) (by decide) dX6_isCommand_37 (by decide) (fun c_37 => ?_) (fun c_37 => ?_)
      · skip
        refine lv_iconst (v := (1 : Int32)) hx hb dX6_isCommand_64 (by decide) ?_
        refine lv_goto (tgt := 69) hx hb dX6_isCommand_65 (by decide) ?_
        have e3 : (1 : Int32) = bI (isC (ch y)) := by first | exact (bI_t (isC_of (by omega))).symm | exact (bI_f (fun z => absurd (isC_to z) (by omega))).symm
        rw [e3]
        exact jn69 _ _ _ hP hD hS (lv_cons (lv_at hl 1 rfl) (lv_cons (lv_at hl 0 rfl) (lv_nil hl)))
      · skip
        refine lv_iload_n hx hb dX6_isCommand_40 rfl (lv_at hl 0 rfl) ?_
        refine lv_bipush (v := (102 : Int32)) hx hb dX6_isCommand_41 (by decide) ?_
        refine xn_icmp_eq (tgt := 64) hx hb (ch y) 102 rfl rfl (by omega) (by decide) dX6_isCommand_43 (by decide) (fun c_43 => ?_) (fun c_43 => ?_)
        · skip
          refine lv_iconst (v := (1 : Int32)) hx hb dX6_isCommand_64 (by decide) ?_
          refine lv_goto (tgt := 69) hx hb dX6_isCommand_65 (by decide) ?_
          have e4 : (1 : Int32) = bI (isC (ch y)) := by first | exact (bI_t (isC_of (by omega))).symm | exact (bI_f (fun z => absurd (isC_to z) (by omega))).symm
          rw [e4]
          exact jn69 _ _ _ hP hD hS (lv_cons (lv_at hl 1 rfl) (lv_cons (lv_at hl 0 rfl) (lv_nil hl)))
        · skip
          refine lv_iload_n hx hb dX6_isCommand_46 rfl (lv_at hl 0 rfl) ?_
          refine lv_bipush (v := (97 : Int32)) hx hb dX6_isCommand_47 (by decide) ?_
          refine xn_icmp_eq (tgt := 64) hx hb (ch y) 97 rfl rfl (by omega) (by decide) dX6_isCommand_49 (by decide) (fun c_49 => ?_) (fun c_49 => ?_)
          · skip
            refine lv_iconst (v := (1 : Int32)) hx hb dX6_isCommand_64 (by decide) ?_
            refine lv_goto (tgt := 69) hx hb dX6_isCommand_65 (by decide) ?_
            have e5 : (1 : Int32) = bI (isC (ch y)) := by first | exact (bI_t (isC_of (by omega))).symm | exact (bI_f (fun z => absurd (isC_to z) (by omega))).symm
            rw [e5]
            exact jn69 _ _ _ hP hD hS (lv_cons (lv_at hl 1 rfl) (lv_cons (lv_at hl 0 rfl) (lv_nil hl)))
          · skip
            refine lv_iload_n hx hb dX6_isCommand_52 rfl (lv_at hl 0 rfl) ?_
            refine lv_bipush (v := (100 : Int32)) hx hb dX6_isCommand_53 (by decide) ?_
            refine xn_icmp_eq (tgt := 64) hx hb (ch y) 100 rfl rfl (by omega) (by decide) dX6_isCommand_55 (by decide) (fun c_55 => ?_) (fun c_55 => ?_)
            · skip
              refine lv_iconst (v := (1 : Int32)) hx hb dX6_isCommand_64 (by decide) ?_
              refine lv_goto (tgt := 69) hx hb dX6_isCommand_65 (by decide) ?_
              have e6 : (1 : Int32) = bI (isC (ch y)) := by first | exact (bI_t (isC_of (by omega))).symm | exact (bI_f (fun z => absurd (isC_to z) (by omega))).symm
              rw [e6]
              exact jn69 _ _ _ hP hD hS (lv_cons (lv_at hl 1 rfl) (lv_cons (lv_at hl 0 rfl) (lv_nil hl)))
            · skip
              refine lv_iload_n hx hb dX6_isCommand_58 rfl (lv_at hl 0 rfl) ?_
              refine lv_bipush (v := (103 : Int32)) hx hb dX6_isCommand_59 (by decide) ?_
              refine xn_icmp_ne (tgt := 68) hx hb (ch y) 103 rfl rfl (by omega) (by decide) dX6_isCommand_61 (by decide) (fun c_61 => ?_) (fun c_61 => ?_)
              · skip
                refine lv_iconst (v := (0 : Int32)) hx hb dX6_isCommand_68 (by decide) ?_
                have e7 : (0 : Int32) = bI (isC (ch y)) := by first | exact (bI_t (isC_of (by omega))).symm | exact (bI_f (fun z => absurd (isC_to z) (by omega))).symm
                rw [e7]
                exact jn69 _ _ _ hP hD hS (lv_cons (lv_at hl 1 rfl) (lv_cons (lv_at hl 0 rfl) (lv_nil hl)))
              · skip
                refine lv_iconst (v := (1 : Int32)) hx hb dX6_isCommand_64 (by decide) ?_
                refine lv_goto (tgt := 69) hx hb dX6_isCommand_65 (by decide) ?_
                have e8 : (1 : Int32) = bI (isC (ch y)) := by first | exact (bI_t (isC_of (by omega))).symm | exact (bI_f (fun z => absurd (isC_to z) (by omega))).symm
                rw [e8]
                exact jn69 _ _ _ hP hD hS (lv_cons (lv_at hl 1 rfl) (lv_cons (lv_at hl 0 rfl) (lv_nil hl)))

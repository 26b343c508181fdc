/-! pay and roles played add up; a day is played -/
def tmP (S : HV) (k : Nat) : Nat → Int32 | 0 => 0 | j + 1 => tmP S k j + S 4 (j * 10 + k)
def tmS (S : HV) (R : Nat) : Nat → Int32 | 0 => 0 | k + 1 => tmS S R k + tmP S k R
theorem tmP_n {S : HV} {T : Nat → Nat} (h : ∀ j, S 4 j = nI (T j)) (k : Nat) : ∀ n, tmP S k n = nI (sgN (fun r => T (r * 10 + k)) n)
  | 0 => rfl
  | n + 1 => by
    show tmP S k n + S 4 (n * 10 + k) = nI (sgN (fun r => T (r * 10 + k)) n + T (n * 10 + k))
    rw [tmP_n h k n, h, nI_add]
theorem tmS_n {S : HV} {T : Nat → Nat} (h : ∀ j, S 4 j = nI (T j)) (R : Nat) : ∀ n, tmS S R n = nI (sgN (fun p => sgN (fun r => T (r * 10 + p)) R) n)
  | 0 => rfl
  | n + 1 => by
    show tmS S R n + tmP S n R = nI (sgN (fun p => sgN (fun r => T (r * 10 + p)) R) n + sgN (fun r => T (r * 10 + n)) R)
    rw [tmS_n h R n, tmP_n h n R, nI_add]
theorem sum_n {f : Nat → Int32} {g : Nat → Nat} (h : ∀ j, f j = nI (g j)) : ∀ n, sumN f n = nI (sgN g n)
  | 0 => rfl
  | n + 1 => by
    show sumN f n + f n = nI (sgN g n + g n)
    rw [sum_n h n, h, nI_add]
section PY
variable {S : HV} {R P B : Nat}
theorem py_eq (h : INV S R P B) : sumN (S 8) P = tmS S R P := by
  obtain ⟨h1, h2, h3, h4, T, sh, rw, n, s, a1, a2, a3, a4, a5, a6, a7, a8, a9, a10, a11, a12⟩ := h
  obtain ⟨-, hR, -, hP, -⟩ := h1
  rw [sum_n a2 P, tmS_n a1 R P]
  congr 1
  exact sg_cong P (fun p hp => (a9 p (by omega)).trans (sg_ext 6 hR (fun r a b => a10 p r a b (by omega))))
theorem py_std (h : INV S R P B) (hB : B ≤ 10000) : S 15 0 ≤ tmS S R P := by
  rw [← py_eq h]
  obtain ⟨h1, h2, h3, h4, T, sh, rw, n, s, a1, a2, a3, a4, a5, a6, a7, a8, a9, a10, a11, a12⟩ := h
  obtain ⟨-, hR, -, hP, -⟩ := h1
  rw [sum_n a2 P, a5]
  have e1 := sg_ext (f := sh) 10 hP (fun i a _ => a11 i a)
  have e2 := sg_le (f := sh) (M := n) 10 (fun i _ => a8 i)
  exact (nI_leI (by omega) (by omega)).mpr (by omega)
theorem py_row (h : INV S R P B) (hB : B ≤ 10000) (p : Nat) : S 6 p ≤ S 8 p := by
  obtain ⟨h1, h2, h3, h4, T, sh, rw, n, s, a1, a2, a3, a4, a5, a6, a7, a8, a9, a10, a11, a12⟩ := h
  have b1 := a7 p
  have b2 := a8 p
  rw [a3, a2]
  exact (nI_leI (by omega) (by omega)).mpr (by omega)
theorem py_sh (h : INV S R P B) (hB : B ≤ 10000) (p : Nat) : S 8 p ≤ S 13 0 := by
  obtain ⟨h1, h2, h3, h4, T, sh, rw, n, s, a1, a2, a3, a4, a5, a6, a7, a8, a9, a10, a11, a12⟩ := h
  have b2 := a8 p
  rw [a4, a2]
  exact (nI_leI (by omega) (by omega)).mpr (by omega)
theorem py_away (h : INV S R P B) (hB : B ≤ 10000) {p : Nat} (hf : hFree S p) : (if 0 < S 7 p - S 12 0 then S 7 p - S 12 0 else 0) = 0 := by
  obtain ⟨⟨t, t1, t2⟩, h4⟩ := h.2.2.2.1
  obtain ⟨b, b1, b2⟩ := h4 p
  have h5 := hf.1
  rw [b2, t2] at h5 ⊢
  have h6 := (nI_leI (by omega) (by omega)).mp h5
  refine if_neg (fun z => ?_)
  rw [Int32.lt_iff_toInt_lt, pk_sub_toInt (by omega) (by omega)] at z
  have h7 : (0 : Int32).toInt = 0 := by decide
  omega
end PY
theorem sum_upd0 {f : Nat → Int32} {q : Nat} {x : Int32} : ∀ n, n ≤ q → sumN (upd f q x) n = sumN f n
  | 0, _ => rfl
  | n + 1, h => by
    show sumN (upd f q x) n + upd f q x n = sumN f n + f n
    rw [sum_upd0 n (by omega), upd, if_neg (show ¬ n = q by omega)]
theorem sum_upd {f : Nat → Int32} {q : Nat} {x : Int32} : ∀ n, q < n → sumN (upd f q (f q + x)) n = sumN f n + x
  | 0, h => by omega
  | n + 1, h => by
    show sumN (upd f q (f q + x)) n + upd f q (f q + x) n = sumN f n + f n + x
    rcases Nat.lt_or_eq_of_le (Nat.le_of_lt_succ h) with e | e
    · rw [sum_upd n e, upd, if_neg (show ¬ n = q by omega), Int32.add_assoc, Int32.add_assoc, Int32.add_comm x]
    · subst e
      rw [sum_upd0 q (Nat.le_refl _), upd, if_pos rfl, Int32.add_assoc]
theorem hPay_5 (S : HV) (r p : Nat) : hPay S r p 5 = upd (S 5) p (S 5 p + pPay S r p) := by
  unfold hPay
  split <;> rfl
theorem hPay_8 (S : HV) (r p : Nat) : hPay S r p 8 = upd (S 8) p (S 8 p + 1) := by
  unfold hPay
  split <;> rfl
theorem hPay_4 (S : HV) (r p : Nat) : hPay S r p 4 = upd (S 4) (r * 10 + p) (S 4 (r * 10 + p) + 1) := by
  unfold hPay
  split <;> rfl
theorem hPay_15 (S : HV) (r p : Nat) : hPay S r p 15 0 = S 15 0 ∨ hPay S r p 15 0 = S 15 0 + 1 := by
  unfold hPay
  split
  · exact Or.inl rfl
  · exact Or.inr rfl
def NbI (M : Nat) (x : Int32) : Prop := ∃ m, m ≤ M ∧ x = nI m
theorem nb_ite {M : Nat} {c : Prop} [Decidable c] {a b : Int32} (ha : NbI M a) (hb : NbI M b) : NbI M (if c then a else b) := by
  split
  · exact ha
  · exact hb
theorem nb_add {M N : Nat} {a b : Int32} (ha : NbI M a) (hb : NbI N b) : NbI (M + N) (a + b) := by
  obtain ⟨m, m1, m2⟩ := ha
  obtain ⟨n, n1, n2⟩ := hb
  exact ⟨m + n, by omega, by rw [m2, n2, nI_add]⟩
theorem nb_up {M N : Nat} {a : Int32} (ha : NbI M a) (h : M ≤ N) : NbI N a := by
  obtain ⟨m, m1, m2⟩ := ha
  exact ⟨m, by omega, m2⟩
theorem pPay_n {X : HV} {r : Nat} (h0 : NbI 9 (X 0 r)) (h9 : STI X) (p : Nat) : NbI 1188 (pPay X r p) := by
  have hm : NbI 891 (X 0 r * X 9 2) := by
    obtain ⟨a, a1, a2⟩ := h0
    obtain ⟨b, b1, b2⟩ := h9 2
    refine ⟨a * b, ?_, by rw [a2, b2, pk_mul]⟩
    have h1 : a * b ≤ 9 * 99 := Nat.mul_le_mul a1 b1
    omega
  have hb : NbI 990 (X 9 1 + X 0 r * X 9 2) := nb_add (M := 99) (h9 1) hm
  have he : NbI 1089 (if X 1 r = nI p then X 9 1 + X 0 r * X 9 2 else X 9 1 + X 0 r * X 9 2 + X 9 3) := nb_ite (nb_up hb (by omega)) (nb_add hb (h9 3))
  exact nb_ite (nb_up he (by omega)) (nb_ite (nb_up he (by omega)) (nb_add he (h9 4)))
theorem pd_n {S : HV} {R P B : Nat} (h : INV S R P B) (cs : Nat → Nat) : ∀ r, r ≤ R → NbI (1188 * r) (pdF S cs r)
  | 0, _ => ⟨0, by omega, rfl⟩
  | r + 1, hr => by
    unfold pdF
    refine nb_add (M := 1188 * r) (pd_n h cs r (by omega)) (pPay_n ?_ ?_ _)
    · rw [hPf_keep S cs 0 (by decide) r]
      obtain ⟨a, a1, a2, a3⟩ := h.2.1.1 r (by omega)
      exact ⟨a, a2, a3⟩
    · intro k
      rw [hPf_keep S cs 9 (by decide) r]
      exact h.2.2.1 k
theorem pd_sum {S : HV} {R P : Nat} {cs : Nat → Nat} (hc : ∀ r, r < R → cs r < P) : ∀ r, r ≤ R → sumN (hPf S cs r 5) P = sumN (S 5) P + pdF S cs r
  | 0, _ => (Int32.add_zero _).symm
  | r + 1, hr => by
    unfold hPf pdF
    rw [hPay_5, sum_upd P (hc r (by omega)), pd_sum hc r (by omega), Int32.add_assoc]
/-- what is so while the roles are paid one by one -/
def PFC (S : HV) (R P : Nat) (cs : Nat → Nat) (sh : Nat → Nat) (r : Nat) : Prop := ∃ (T1 sh1 : Nat → Nat) (s1 : Nat),
  (∀ j, hPf S cs r 4 j = nI (T1 j)) ∧ (∀ p, hPf S cs r 8 p = nI (sh1 p)) ∧ hPf S cs r 15 0 = nI s1 ∧ (∀ p, p < 10 → sh1 p = sgN (fun i => T1 (i * 10 + p)) 6) ∧
  (∀ p i, R ≤ i → i < 6 → p < 10 → T1 (i * 10 + p) = 0) ∧ (∀ p, P ≤ p → sh1 p = 0) ∧ s1 ≤ sgN sh1 10 ∧
  (∀ p, (∀ i, i < r → cs i ≠ p) → sh1 p = sh p) ∧ (∀ i, i < r → sh1 (cs i) = sh (cs i) + 1)
theorem upd_inc {f : Nat → Int32} {g : Nat → Nat} (h : ∀ j, f j = nI (g j)) (q j : Nat) : upd f q (f q + 1) j = nI (if j = q then g j + 1 else g j) := by
  unfold upd
  by_cases e : j = q
  · rw [if_pos e, if_pos e, h, nI_1, e]
  · rw [if_neg e, if_neg e, h]
theorem pfc_all {S : HV} {R P B : Nat} {cs : Nat → Nat} {T sh rw : Nat → Nat} {n s : Nat} (hR : R ≤ 6) (hP : P ≤ 10) (hp : PLC S R P B T sh rw n s) (hc : ∀ r, r < R → cs r < P) (hi : ∀ i j, i < j → j < R → cs i ≠ cs j) : ∀ r, r ≤ R → PFC S R P cs sh r
  | 0, _ => by
    obtain ⟨a1, a2, a3, a4, a5, a6, a7, a8, a9, a10, a11, a12⟩ := hp
    exact ⟨T, sh, s, a1, a2, a5, a9, a10, a11, a12, fun _ _ => rfl, fun i h => absurd h (Nat.not_lt_zero _)⟩
  | r + 1, hr => by
    obtain ⟨T1, sh1, s1, b1, b2, b3, b4, b5, b6, b7, b8, b9⟩ := pfc_all hR hP hp hc hi r (by omega)
    have hq := hc r (by omega)
    have hin : ∀ i, i < r → cs i ≠ cs r := fun i h => hi i r h (by omega)
    unfold PFC hPf
    generalize hcs : cs r = q at *
    refine ⟨fun j => if j = r * 10 + q then T1 j + 1 else T1 j, fun p => if p = q then sh1 p + 1 else sh1 p, if hPay (hPf S cs r) r q 15 0 = hPf S cs r 15 0 then s1 else s1 + 1, fun j => ?_, fun p => ?_, ?_, fun p h10 => ?_, fun p i h1 h2 h3 => ?_, fun p h => ?_, ?_, fun p h => ?_, fun i h => ?_⟩
    · rw [hPay_4]
      exact upd_inc b1 _ j
    · rw [hPay_8]
      exact upd_inc b2 _ p
    · by_cases e : hPay (hPf S cs r) r q 15 0 = hPf S cs r 15 0
      · rw [if_pos e, e, b3]
      · rw [if_neg e, (hPay_15 (hPf S cs r) r q).resolve_left e, b3, nI_1]
    · show (if p = q then sh1 p + 1 else sh1 p) = sgN (fun i => if i * 10 + p = r * 10 + q then T1 (i * 10 + p) + 1 else T1 (i * 10 + p)) 6
      by_cases e : p = q
      · subst e
        rw [if_pos rfl, b4 p h10, ← sg_upd (f := fun i => T1 (i * 10 + p)) (r := r) 6 (by omega)]
        refine sg_cong 6 (fun i _ => ?_)
        show (if i = r then T1 (i * 10 + p) + 1 else T1 (i * 10 + p)) = (if i * 10 + p = r * 10 + p then T1 (i * 10 + p) + 1 else T1 (i * 10 + p))
        by_cases e2 : i = r
        · subst e2
          rw [if_pos rfl, if_pos rfl]
        · rw [if_neg e2, if_neg (by omega)]
      · rw [if_neg e, b4 p h10]
        exact sg_cong 6 (fun i _ => (if_neg (by omega)).symm)
    · show (if i * 10 + p = r * 10 + q then T1 (i * 10 + p) + 1 else T1 (i * 10 + p)) = 0
      rw [if_neg (by omega)]
      exact b5 p i h1 h2 h3
    · show (if p = q then sh1 p + 1 else sh1 p) = 0
      rw [if_neg (by omega)]
      exact b6 p h
    · rw [sg_upd (f := sh1) 10 (by omega)]
      split <;> omega
    · show (if p = q then sh1 p + 1 else sh1 p) = sh p
      rw [if_neg (fun z => h r (Nat.lt_succ_self r) (hcs.trans z.symm))]
      exact b8 p (fun i hi => h i (by omega))
    · show (if cs i = q then sh1 (cs i) + 1 else sh1 (cs i)) = sh (cs i) + 1
      rcases Nat.lt_or_eq_of_le (Nat.le_of_lt_succ h) with e | e
      · rw [if_neg (hin i e)]
        exact b9 i e
      · subst e
        rw [hcs, if_pos rfl, b8 q hin]
theorem hPl_keep {S : HV} {R P j : Nat} (h : j ≠ 4 ∧ j ≠ 5 ∧ j ≠ 6 ∧ j ≠ 8 ∧ j ≠ 12 ∧ j ≠ 13 ∧ j ≠ 14 ∧ j ≠ 15 ∧ j ≠ 16) : hPlay S R P j = S j := by
  unfold hPlay
  rw [hput, hrow_ne _ _ (by omega), hput, hrow_ne _ _ (by omega), hrow_ne _ _ (by omega)]
  split
  · rw [hput, hrow_ne _ _ (by omega)]
  · rw [hput, hrow_ne _ _ (by omega), hPf_keep S _ j (by omega)]
theorem hPl_y {S : HV} {R P j : Nat} (hd : ¬ hStr S R P = -1) (h : j ≠ 6 ∧ j ≠ 12 ∧ j ≠ 13 ∧ j ≠ 16) : hPlay S R P j = hPf S (pkw S R P) R j := by
  unfold hPlay
  rw [hput, hrow_ne _ _ (by omega), hput, hrow_ne _ _ (by omega), hrow_ne _ _ (by omega), if_neg hd, hput, hrow_ne _ _ (by omega)]
theorem hPl_n {S : HV} {R P j : Nat} (hd : hStr S R P = -1) (h : j ≠ 6 ∧ j ≠ 12 ∧ j ≠ 14 ∧ j ≠ 16) : hPlay S R P j = S j := by
  unfold hPlay
  rw [hput, hrow_ne _ _ (by omega), hput, hrow_ne _ _ (by omega), hrow_ne _ _ (by omega), if_pos hd, hput, hrow_ne _ _ (by omega)]
theorem hPl_6 {S : HV} {R P : Nat} : hPlay S R P 6 = rwS S R P := rfl
theorem hPl_13 {S : HV} {R P : Nat} (hd : ¬ hStr S R P = -1) : hPlay S R P 13 0 = S 13 0 + 1 := by
  have e : hPlay S R P 13 0 = (if hStr S R P = -1 then hput S 14 (S 14 0 + 1) else hput (hPf S (pkw S R P) R) 13 (hPf S (pkw S R P) R 13 0 + 1)) 13 0 := rfl
  rw [e, if_neg hd]
  show hPf S (pkw S R P) R 13 0 + 1 = _
  rw [hPf_keep S _ 13 (by decide) R]
theorem hPl_14 {S : HV} {R P : Nat} (hd : hStr S R P = -1) : hPlay S R P 14 0 = S 14 0 + 1 := by
  have e : hPlay S R P 14 0 = (if hStr S R P = -1 then hput S 14 (S 14 0 + 1) else hput (hPf S (pkw S R P) R) 13 (hPf S (pkw S R P) R 13 0 + 1)) 14 0 := rfl
  rw [e, if_pos hd]
  rfl
theorem pl_days {S : HV} {R P : Nat} : hPlay S R P 13 0 + hPlay S R P 14 0 = S 13 0 + S 14 0 + 1 := by
  by_cases hd : hStr S R P = -1
  · rw [hPl_14 hd, hPl_n hd (by decide), Int32.add_assoc]
  · rw [hPl_13 hd, hPl_y hd (by decide), hPf_keep S _ 14 (by decide) R, Int32.add_assoc, Int32.add_comm 1, Int32.add_assoc]
theorem pl_got {S : HV} {R P B : Nat} (h : INV S R P B) : hPaid S R P = -1 ↔ hStr S R P = -1 := by
  unfold hPaid
  by_cases hd : hStr S R P = -1
  · rw [if_pos hd]
    exact ⟨fun _ => hd, fun _ => rfl⟩
  · rw [if_neg hd]
    obtain ⟨m, m1, m2⟩ := pd_n h (pkw S R P) R (Nat.le_refl _)
    have hR := h.1.2.1
    refine ⟨fun z => absurd (m2.symm.trans z) (nI_m1 (by omega)), fun z => absurd z hd⟩
theorem pl_sum {S : HV} {R P B : Nat} (h : INV S R P B) : sumN (hPlay S R P 5) P = sumN (S 5) P + (if hPaid S R P < 0 then 0 else hPaid S R P) := by
  unfold hPaid
  by_cases hd : hStr S R P = -1
  · rw [if_pos hd, if_pos (by decide), hPl_n hd (by decide), Int32.add_zero]
  · obtain ⟨m, m1, m2⟩ := pd_n h (pkw S R P) R (Nat.le_refl _)
    have hR := h.1.2.1
    rw [if_neg hd, if_neg (by rw [m2]; exact nI_pos (by omega)), hPl_y hd (by decide)]
    exact pd_sum (fun r hr => (cv_c h.1.2.2.2.1 hd hr).2) R (Nat.le_refl _)
theorem inv_play {S : HV} {R P B : Nat} (h : INV S R P B) : INV (hPlay S R P) R P (B + 10) := by
  obtain ⟨h1, h2, h3, h4, h5⟩ := h
  obtain ⟨⟨t, t1, t2⟩, h4⟩ := h4
  obtain ⟨r1, hR, p1, hP, -⟩ := h1
  have k0 : hPlay S R P 0 = S 0 := hPl_keep (by decide)
  have k3 : hPlay S R P 3 = S 3 := hPl_keep (by decide)
  have k7 : hPlay S R P 7 = S 7 := hPl_keep (by decide)
  have k9 : hPlay S R P 9 = S 9 := hPl_keep (by decide)
  have k10 : hPlay S R P 10 = S 10 := hPl_keep (by decide)
  have k11 : hPlay S R P 11 = S 11 := hPl_keep (by decide)
  refine ⟨⟨by rw [k10]; exact r1, hR, by rw [k11]; exact p1, hP, Or.inl rfl⟩, ⟨by rw [k0]; exact h2.1, by rw [k3]; exact h2.2⟩, fun k => by rw [k9]; exact h3 k, ⟨⟨t + 1, by omega, ?_⟩, fun p => ?_⟩, ?_⟩
  · show S 12 0 + 1 = _
    rw [t2, nI_1]
  · rw [k7]
    obtain ⟨b, b1, b2⟩ := h4 p
    exact ⟨b, by omega, b2⟩
  · obtain ⟨T, sh, rw, n, s, hp⟩ := h5
    have hp0 := hp
    obtain ⟨a1, a2, a3, a4, a5, a6, a7, a8, a9, a10, a11, a12⟩ := hp
    have k6 : ∀ j, hPlay S R P 6 j = nI (if j < P then (if fstF (fun r => decide (hCs S R P r = nI j)) 0 R = -1 then 0 else rw j + 1) else rw j) := fun j => by
      have e : hPlay S R P 6 j = if j < P then (if fstF (fun r => decide (hCs S R P r = nI j)) 0 R = -1 then 0 else S 6 j + 1) else S 6 j := rfl
      rw [e]
      by_cases c : j < P
      · rw [if_pos c, if_pos c]
        by_cases c2 : fstF (fun r => decide (hCs S R P r = nI j)) 0 R = -1
        · rw [if_pos c2, if_pos c2]
          rfl
        · rw [if_neg c2, if_neg c2, a3, nI_1]
      · rw [if_neg c, if_neg c, a3]
    by_cases hd : hStr S R P = -1
    · have l : ∀ j, (j ≠ 6 ∧ j ≠ 12 ∧ j ≠ 14 ∧ j ≠ 16) → hPlay S R P j = S j := fun j hj => hPl_n hd hj
      refine ⟨T, sh, _, n, s, by rw [l 4 (by decide)]; exact a1, by rw [l 8 (by decide)]; exact a2, k6, by rw [l 13 (by decide)]; exact a4, by rw [l 15 (by decide)]; exact a5, by omega, fun p => ?_, a8, a9, a10, a11, a12⟩
      have b1 := a7 p
      by_cases c : p < P
      · rw [if_pos c, if_pos (cv_none hd (by omega))]
        exact Nat.zero_le _
      · rw [if_neg c]
        exact b1
    · have hc : ∀ r, r < R → pkw S R P r < P := fun r hr => (cv_c hP hd hr).2
      have hi : ∀ i j, i < j → j < R → pkw S R P i ≠ pkw S R P j := fun i j a b => cv_inj hP hd a b
      have l : ∀ j, (j ≠ 6 ∧ j ≠ 12 ∧ j ≠ 13 ∧ j ≠ 16) → hPlay S R P j = hPf S (pkw S R P) R j := fun j hj => hPl_y hd hj
      obtain ⟨T1, sh1, s1, b1, b2, b3, b4, b5, b6, b7, b8, b9⟩ := pfc_all hR hP hp0 hc hi R (Nat.le_refl _)
      refine ⟨T1, sh1, _, n + 1, s1, by rw [l 4 (by decide)]; exact b1, by rw [l 8 (by decide)]; exact b2, k6, by rw [hPl_13 hd, a4, nI_1], by rw [l 15 (by decide)]; exact b3, by omega, fun p => ?_, fun p => ?_, b4, b5, b6, b7⟩
      · have c7 := a7 p
        have c8 : sh p ≤ sh1 p := by
          by_cases e : ∃ i, i < R ∧ pkw S R P i = p
          · obtain ⟨i, i1, i2⟩ := e
            have := b9 i i1
            rw [i2] at this
            omega
          · exact Nat.le_of_eq (b8 p (fun i i1 i2 => e ⟨i, i1, i2⟩)).symm
        by_cases c : p < P
        · rw [if_pos c]
          by_cases hb : (tkw S R P R).testBit p = true
          · obtain ⟨-, -, -, h4⟩ := tkF_spec hP hd R (Nat.le_refl _)
            obtain ⟨r, hr, e, -, -⟩ := h4 p hb
            have e2 : pkw S R P r = p := e.symm
            have e3 := b9 r hr
            rw [e2] at e3
            split <;> omega
          · rw [if_pos (cv_out hP hd c hb)]
            exact Nat.zero_le _
        · rw [if_neg c]
          omega
      · have c8 := a8 p
        by_cases e : ∃ i, i < R ∧ pkw S R P i = p
        · obtain ⟨i, i1, i2⟩ := e
          have e3 := b9 i i1
          rw [i2] at e3
          omega
        · have e3 := b8 p (fun i i1 i2 => e ⟨i, i1, i2⟩)
          omega

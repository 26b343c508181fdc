/-! what is always so of a house -/
def sgN (f : Nat → Nat) : Nat → Nat | 0 => 0 | k + 1 => sgN f k + f k
theorem sg_cong {f g : Nat → Nat} : ∀ n, (∀ i, i < n → f i = g i) → sgN f n = sgN g n
  | 0, _ => rfl
  | n + 1, h => by
    unfold sgN
    rw [sg_cong n (fun i hi => h i (by omega)), h n (by omega)]
theorem sg_ext {f : Nat → Nat} {m : Nat} : ∀ n, m ≤ n → (∀ i, m ≤ i → i < n → f i = 0) → sgN f n = sgN f m
  | 0, h, _ => by rw [show m = 0 by omega]
  | n + 1, h, hz => by
    rcases Nat.lt_or_eq_of_le h with e | e
    · unfold sgN
      rw [sg_ext n (by omega) (fun i a b => hz i a (by omega)), hz n (by omega) (by omega), Nat.add_zero]
      cases m <;> rfl
    · rw [e]
theorem sg_upd {f : Nat → Nat} {r : Nat} : ∀ n, r < n → sgN (fun i => if i = r then f i + 1 else f i) n = sgN f n + 1
  | 0, h => by omega
  | n + 1, h => by
    unfold sgN
    rcases Nat.lt_or_eq_of_le (Nat.le_of_lt_succ h) with e | e
    · rw [sg_upd n e, if_neg (show ¬ n = r by omega)]
      omega
    · subst e
      rw [if_pos rfl, sg_cong r (fun i hi => if_neg (show ¬ i = r by omega))]
      omega
theorem sg_le {f : Nat → Nat} {M : Nat} : ∀ n, (∀ i, i < n → f i ≤ M) → sgN f n ≤ n * M
  | 0, _ => by simp [sgN]
  | n + 1, h => by
    unfold sgN
    have h1 := sg_le n (fun i hi => h i (by omega))
    have h2 := h n (by omega)
    rw [Nat.succ_mul]
    omega
def STI (S : HV) : Prop := ∀ k, ∃ v, v ≤ 99 ∧ S 9 k = nI v
def DYI (S : HV) (B : Nat) : Prop := (∃ t, t ≤ B ∧ S 12 0 = nI t) ∧ ∀ p, ∃ b, b ≤ B ∧ S 7 p = nI b
/-- roles played, performances, days in a row -/
def PLC (S : HV) (R P B : Nat) (T sh rw : Nat → Nat) (n s : Nat) : Prop :=
  (∀ j, S 4 j = nI (T j)) ∧ (∀ p, S 8 p = nI (sh p)) ∧ (∀ p, S 6 p = nI (rw p)) ∧ S 13 0 = nI n ∧ S 15 0 = nI s ∧ n ≤ B ∧ (∀ p, rw p ≤ sh p) ∧ (∀ p, sh p ≤ n) ∧
  (∀ p, p < 10 → sh p = sgN (fun r => T (r * 10 + p)) 6) ∧ (∀ p r, R ≤ r → r < 6 → p < 10 → T (r * 10 + p) = 0) ∧ (∀ p, P ≤ p → sh p = 0) ∧ s ≤ sgN sh 10
def PLI (S : HV) (R P B : Nat) : Prop := ∃ (T sh rw : Nat → Nat) (n s : Nat), PLC S R P B T sh rw n s
def RPI (S : HV) (R P : Nat) : Prop := S 10 0 = nI R ∧ R ≤ 6 ∧ S 11 0 = nI P ∧ P ≤ 10 ∧ (S 16 0 = 0 ∨ S 16 0 = 1)
def INV (S : HV) (R P B : Nat) : Prop := RPI S R P ∧ CI S R ∧ STI S ∧ DYI S B ∧ PLI S R P B
theorem DYI_up {S : HV} {B B' : Nat} (h : DYI S B) (hB : B ≤ B') : DYI S B' := by
  obtain ⟨⟨t, t1, t2⟩, h2⟩ := h
  refine ⟨⟨t, by omega, t2⟩, fun p => ?_⟩
  obtain ⟨b, b1, b2⟩ := h2 p
  exact ⟨b, by omega, b2⟩
theorem PLI_up {S : HV} {R P B B' : Nat} (h : PLI S R P B) (hB : B ≤ B') : PLI S R P B' := by
  obtain ⟨T, sh, rw, n, s, h1, h2, h3, h4, h5, h6, h7⟩ := h
  exact ⟨T, sh, rw, n, s, h1, h2, h3, h4, h5, by omega, h7⟩
theorem INV_up {S : HV} {R P B B' : Nat} (h : INV S R P B) (hB : B ≤ B') : INV S R P B' := ⟨h.1, h.2.1, h.2.2.1, DYI_up h.2.2.2.1 hB, PLI_up h.2.2.2.2 hB⟩
theorem inv_emp : INV hEmp 0 0 0 := by
  refine ⟨⟨rfl, by omega, rfl, by omega, Or.inl rfl⟩, ⟨fun r h => by omega, fun j => ⟨0, by omega, rfl⟩⟩, fun k => ?_, ⟨⟨0, by omega, rfl⟩, fun p => ⟨0, by omega, rfl⟩⟩, ?_⟩
  · show ∃ v, v ≤ 99 ∧ sFst k = nI v
    unfold sFst
    by_cases a : k = 0
    · exact ⟨5, by omega, if_pos a⟩
    · rw [if_neg a]
      by_cases b : k = 1
      · exact ⟨10, by omega, if_pos b⟩
      · rw [if_neg b]
        by_cases c : k = 2
        · exact ⟨2, by omega, if_pos c⟩
        · rw [if_neg c]
          by_cases d : k = 3
          · exact ⟨5, by omega, if_pos d⟩
          · exact ⟨15, by omega, if_neg d⟩
  · refine ⟨fun _ => 0, fun _ => 0, fun _ => 0, 0, 0, fun _ => rfl, fun _ => rfl, fun _ => rfl, rfl, rfl, by omega, fun _ => Nat.le_refl 0, fun _ => Nat.le_refl 0, fun p _ => ?_, fun _ _ _ _ _ => rfl, fun _ _ => rfl, Nat.zero_le _⟩
    rfl
/-! the actions keep it -/
theorem upd_at {f : Nat → Int32} {k j : Nat} {x : Int32} (C : Int32 → Prop) (h : ∀ j, C (f j)) (hx : C x) : C (upd f k x j) := by
  unfold upd
  by_cases e : j = k
  · rw [if_pos e]
    exact hx
  · rw [if_neg e]
    exact h j
theorem inv_ready {S : HV} {R P B i d : Nat} (h : INV S R P B) (hd : d ≤ 9) : INV (hset S 3 i (nI d)) R P B :=
  ⟨h.1, ⟨h.2.1.1, fun j => upd_at (fun x => ∃ d, d ≤ 9 ∧ x = nI d) h.2.1.2 ⟨d, hd, rfl⟩⟩, h.2.2.1, h.2.2.2.1, h.2.2.2.2⟩
theorem inv_first {S : HV} {R P B i : Nat} {x : Int32} (h : INV S R P B) : INV (hset S 1 i x) R P B := h
theorem inv_set {S : HV} {R P B i v : Nat} (h : INV S R P B) (hv : v ≤ 99) : INV (hset S 9 i (nI v)) R P B :=
  ⟨h.1, h.2.1, fun j => upd_at (fun x => ∃ d, d ≤ 99 ∧ x = nI d) h.2.2.1 ⟨v, hv, rfl⟩, h.2.2.2.1, h.2.2.2.2⟩
theorem inv_away {S : HV} {R P B p d : Nat} (h : INV S R P B) (hd : d ≤ 10) : INV (hAway S p d) R P (B + 10) := by
  obtain ⟨h1, h2, h3, h4, h5⟩ := INV_up h (Nat.le_add_right B 10)
  obtain ⟨⟨t, t1, t2⟩, -⟩ := h.2.2.2.1
  refine ⟨h1, h2, h3, ⟨h4.1, fun j => upd_at (fun x => ∃ b, b ≤ B + 10 ∧ x = nI b) h4.2 ⟨t + d, by omega, ?_⟩⟩, h5⟩
  rw [t2, nI_add]
theorem inv_dark {S : HV} {R P B n : Nat} (h : INV S R P B) (hn : n ≤ 10) : INV (hPass S n) R P (B + 10) := by
  obtain ⟨h1, h2, h3, h4, h5⟩ := INV_up h (Nat.le_add_right B 10)
  obtain ⟨⟨t, t1, t2⟩, -⟩ := h.2.2.2.1
  obtain ⟨T, sh, rw, n9, s, a1, a2, a3, a4, a5, a6, a7, a8⟩ := h5
  refine ⟨⟨h1.1, h1.2.1, h1.2.2.1, h1.2.2.2.1, Or.inl rfl⟩, h2, h3, ⟨⟨t + n, by omega, ?_⟩, h4.2⟩, ⟨T, sh, fun _ => 0, n9, s, a1, a2, fun _ => rfl, a4, a5, a6, fun _ => Nat.zero_le _, a8⟩⟩
  show S 12 0 + nI n = nI (t + n)
  rw [t2, nI_add]
theorem inv_post {S : HV} {R P B : Nat} (h : INV S R P B) : INV (hPost S R P) R P B := ⟨⟨h.1.1, h.1.2.1, h.1.2.2.1, h.1.2.2.2.1, Or.inr rfl⟩, h.2.1, h.2.2.1, h.2.2.2.1, h.2.2.2.2⟩
theorem inv_player {S : HV} {R P B : Nat} (h : INV S R P B) (hP : P < 10) : INV (hPutPlayer S) R (P + 1) B := by
  obtain ⟨h1, h2, h3, h4, T, sh, rw, n, s, a1, a2, a3, a4, a5, a6, a7, a8, a9, a10, a11, a12⟩ := h
  refine ⟨⟨h1.1, h1.2.1, ?_, by omega, h1.2.2.2.2⟩, h2, h3, h4, T, sh, rw, n, s, a1, a2, a3, a4, a5, a6, a7, a8, a9, a10, fun p hp => a11 p (by omega), a12⟩
  show S 11 0 + 1 = nI (P + 1)
  rw [h1.2.2.1, nI_1]
theorem inv_role {S : HV} {R P B a : Nat} (h : INV S R P B) (hR : R < 6) (ha : 1 ≤ a ∧ a ≤ 9) : INV (hPutRole S R (nI a)) (R + 1) P B := by
  obtain ⟨h1, h2, h3, h4, T, sh, rw, n, s, a1, a2, a3, a4, a5, a6, a7, a8, a9, a10, a11, a12⟩ := h
  refine ⟨⟨?_, by omega, h1.2.2.1, h1.2.2.2.1, h1.2.2.2.2⟩, ⟨fun r hr => ?_, h2.2⟩, h3, h4, T, sh, rw, n, s, a1, a2, a3, a4, a5, a6, a7, a8, a9, fun p r hr => a10 p r (by omega), a11, a12⟩
  · show S 10 0 + 1 = nI (R + 1)
    rw [h1.1, nI_1]
  · show ∃ b, 1 ≤ b ∧ b ≤ 9 ∧ upd (S 0) R (nI a) r = nI b
    unfold upd
    by_cases e : r = R
    · exact ⟨a, ha.1, ha.2, if_pos e⟩
    · rw [if_neg e]
      exact h2.1 r (by omega)

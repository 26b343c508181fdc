/-! what is kept of a house -/
theorem kp_Play {S : HV} {R P j n : Nat} (h : j ≠ 4 ∧ j ≠ 5 ∧ j ≠ 6 ∧ j ≠ 8 ∧ j ≠ 12 ∧ j ≠ 13 ∧ j ≠ 14 ∧ j ≠ 15 ∧ j ≠ 16) (e : S j 0 = nI n) : hPlay S R P j 0 = nI n := by
  unfold hPlay
  rw [hput, hrow_ne _ _ (by omega), hput, hrow_ne _ _ (by omega), hrow_ne _ _ (by omega)]
  split
  · rw [hput, hrow_ne _ _ (by omega), e]
  · rw [hput, hrow_ne _ _ (by omega), hPf_keep S _ j (by omega), e]
theorem kp_Post {S : HV} {R P j n : Nat} (h : j ≠ 2 ∧ j ≠ 16) (e : S j 0 = nI n) : hPost S R P j 0 = nI n := by
  unfold hPost
  rw [hput, hrow_ne _ _ (by omega), hrow_ne _ _ (by omega), e]
theorem kp_Pass {S : HV} {k j n : Nat} (h : j ≠ 6 ∧ j ≠ 12 ∧ j ≠ 16) (e : S j 0 = nI n) : hPass S k j 0 = nI n := by
  unfold hPass
  rw [hput, hrow_ne _ _ (by omega), hput, hrow_ne _ _ (by omega), hrow_ne _ _ (by omega), e]
theorem kp_Away {S : HV} {p d j n : Nat} (h : j ≠ 7) (e : S j 0 = nI n) : hAway S p d j 0 = nI n := by
  unfold hAway
  rw [hset, hrow_ne _ _ (by omega), e]
theorem kp_ite {c : Prop} [Decidable c] {A B : HV} {j n : Nat} (a : A j 0 = nI n) (b : B j 0 = nI n) : (if c then A else B) j 0 = nI n := by
  split
  · exact a
  · exact b
abbrev hCs (S : HV) (R P r : Nat) : Int32 := csF (wFr S (frN S P)) R P r
theorem hset_hset (S : HV) (k i : Nat) (x y : Int32) : hset (hset S k i x) k i y = hset S k i y := by
  unfold hset
  rw [hrow_hrow, hrow_self, upd_upd]
theorem hset_same (S : HV) (k i : Nat) : S = hset S k i (S k i) := by
  unfold hset
  rw [show upd (S k) i (S k i) = S k from ?_, hrow_same]
  funext j
  unfold upd
  split <;> simp_all
theorem kp_set {S : HV} {k i j n : Nat} {x : Int32} (h : j ≠ k) (e : S j 0 = nI n) : hset S k i x j 0 = nI n := by
  unfold hset
  rw [hrow_ne _ _ h, e]

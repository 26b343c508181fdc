/-! actions, scripts, simulations, texts: the same on both sides -/
section A4
variable {S : HV} {N : Nat → Int32} {R P B : Nat}
theorem addRole_k {w : Int32} (h : SR S N R P B) : kAddRoleM N R w = kAddRole S w := by
  unfold kAddRoleM kAddRole
  have hR := h.1.1.2
  rw [rc16 h.2.1]
  have e : (S 10 0 < 6) ↔ R < 6 := nn_lt h.1.1.1 (rfl : (6 : Int32) = nI 6) (by omega) (by decide)
  by_cases c : inR w 1 9
  · rw [if_neg (show ¬ ¬ inR w 1 9 from fun z => z c), if_neg (show ¬ ¬ inR w 1 9 from fun z => z c)]
    rcases h.1.2.2.1 with z | z
    · rw [z]
      by_cases d : R = 6
      · rw [if_pos (Or.inl d), if_neg (fun y => by have := e.mp y.1; omega)]
      · rw [if_neg (fun y => y.elim d (fun x => absurd x (by decide))), if_pos ⟨e.mpr (by omega), rfl⟩]
    · rw [z, if_pos (Or.inr rfl), if_neg (fun y => absurd y.2 (by decide))]
  · rw [if_pos c, if_pos c]
theorem addPlayer_k (h : SR S N R P B) : kAddPlayerM P = kAddPlayer S := by
  unfold kAddPlayerM kAddPlayer
  have hP := h.1.2.1.2
  have e : (S 11 0 < 10) ↔ P < 10 := nn_lt h.1.2.1.1 (rfl : (10 : Int32) = nI 10) (by omega) (by decide)
  by_cases d : P = 10
  · rw [if_pos d, if_neg (fun y => by have := e.mp y; omega)]
  · rw [if_neg d, if_pos (e.mpr (by omega))]
theorem ready_k {p r d : Int32} (hc : RelC S N) : kReadyM N p r d = kReady S p r d := by
  unfold kReadyM kReady isPlM isPl isRoM isRo
  rw [rc11 hc, rc10 hc]
theorem first_k {r p : Int32} (hc : RelC S N) : kFirstM N r p = kFirst S r p := by
  unfold kFirstM kFirst isPlM isPl isRoM isRo
  rw [rc11 hc, rc10 hc]
theorem away_k {p d : Int32} (hc : RelC S N) : kAwayM N p d = kAway S p d := by
  unfold kAwayM kAway isPlM isPl
  rw [rc11 hc]
theorem post_k (h : SR S N R P B) : kPostM N R P = kPost S R P := by
  unfold kPostM kPost
  by_cases c : R = 0 ∨ hStr S R P = -1
  · rw [if_pos c, if_pos (c.elim Or.inl (fun z => Or.inr ((str_neg h.1 h.2.1).mpr z)))]
  · rw [if_neg c, if_neg (fun z => c (z.elim Or.inl (fun y => Or.inr ((str_neg h.1 h.2.1).mp y))))]
theorem play_k (h : SR S N R P B) : kPlayM R = kPlay S := by
  unfold kPlayM kPlay
  have hR := h.1.1.2
  have e : (R = 0) ↔ (S 10 0 = 0) := (nn_eq (a := R) (b := 0) h.1.1.1 rfl (by omega) (by decide)).symm
  by_cases c : R = 0
  · rw [if_pos c, if_pos (e.mp c)]
  · rw [if_neg c, if_neg (fun z => c (e.mpr z))]
theorem set_k {w v : Int32} : kSetM w v (isForB w v) = kSet w v := by
  unfold kSetM kSet
  by_cases c : inR w 0 4
  · obtain ⟨e, -, hq⟩ := rng_cN (lo := 0) (hi := 4) c (by decide)
    have hb : isForB w v = true ↔ inR v (sLst (cN w)) (sMst (cN w)) := by
      generalize cN w = q at e hq
      subst e
      rcases (show q = 0 ∨ q = 1 ∨ q = 2 ∨ q = 3 ∨ q = 4 by omega) with rfl | rfl | rfl | rfl | rfl
      · exact decide_eq_true_iff
      · exact decide_eq_true_iff
      · exact decide_eq_true_iff
      · exact decide_eq_true_iff
      · exact decide_eq_true_iff
    by_cases d : inR v (sLst (cN w)) (sMst (cN w))
    · rw [if_pos ⟨c, hb.mpr d⟩, if_pos ⟨c, d⟩]
    · rw [if_neg (fun z => d (hb.mp z.2)), if_neg (fun z => d z.2)]
  · rw [if_neg (fun z => c z.1), if_neg (fun z => c z.1)]
theorem dark_0 {n : Nat} (h : SR S N R P B) (hn : 1 ≤ n) : mDk N n P 0 = S 12 0 + nI n := (rc12 (dark_rel h hn).2.1)
/-! promotions -/
/-- who is found among t(0), t(1) ..: the lowest of those with the most, if it is more than m0 -/
def prC (t : Nat → Int32) (m0 : Int32) (P : Nat) (f : Int32) (none : Int32) : Prop := (f = none ∧ ∀ p, p < P → ¬ m0 < t p) ∨ ∃ q, q < P ∧ f = nI q ∧ m0 < t q ∧ (∀ p, p < P → t p ≤ t q) ∧ ∀ p, p < q → t p < t q
theorem pr_up {r : Nat} : ∀ k, (prm S r P k).2 = -1 ∧ (prm S r P k).1 = prm0 S r P ∧ (∀ p, p < k → ¬ prm0 S r P < S 4 (r * 10 + p)) ∨ ∃ q, q < k ∧ (prm S r P k).2 = nI q ∧ (prm S r P k).1 = S 4 (r * 10 + q) ∧ prm0 S r P < S 4 (r * 10 + q) ∧ (∀ p, p < k → S 4 (r * 10 + p) ≤ S 4 (r * 10 + q)) ∧ ∀ p, p < q → S 4 (r * 10 + p) < S 4 (r * 10 + q)
  | 0 => Or.inl ⟨rfl, rfl, fun p hp => absurd hp (Nat.not_lt_zero _)⟩
  | k + 1 => by
    rw [prm]
    rcases pr_up (r := r) k with ⟨a1, a2, a3⟩ | ⟨q, a1, a2, a3, a4, a5, a6⟩
    · rw [a2]
      by_cases c : prm0 S r P < S 4 (r * 10 + k)
      · rw [if_pos c]
        refine Or.inr ⟨k, by omega, rfl, rfl, c, fun p hp => ?_, fun p hp => ?_⟩
        · rcases Nat.lt_succ_iff_lt_or_eq.mp hp with z | z
          · exact Int32.le_of_lt (Int32.lt_of_le_of_lt (Int32.not_lt.mp (a3 p z)) c)
          · rw [z]
            exact Int32.le_refl _
        · exact Int32.lt_of_le_of_lt (Int32.not_lt.mp (a3 p hp)) c
      · rw [if_neg c]
        refine Or.inl ⟨a1, a2, fun p hp => ?_⟩
        rcases Nat.lt_succ_iff_lt_or_eq.mp hp with z | z
        · exact a3 p z
        · rw [z]
          exact c
    · rw [a3]
      by_cases c : S 4 (r * 10 + q) < S 4 (r * 10 + k)
      · rw [if_pos c]
        refine Or.inr ⟨k, by omega, rfl, rfl, Int32.lt_of_lt_of_le a4 (Int32.le_of_lt c), fun p hp => ?_, fun p hp => ?_⟩
        · rcases Nat.lt_succ_iff_lt_or_eq.mp hp with z | z
          · exact Int32.le_trans (a5 p z) (Int32.le_of_lt c)
          · rw [z]
            exact Int32.le_refl _
        · exact Int32.lt_of_le_of_lt (a5 p hp) c
      · rw [if_neg c]
        refine Or.inr ⟨q, by omega, a2, a3, a4, fun p hp => ?_, a6⟩
        rcases Nat.lt_succ_iff_lt_or_eq.mp hp with z | z
        · exact a5 p z
        · rw [z]
          exact Int32.not_lt.mp c
/-- the same, from the last player down -/
theorem pr_down {r : Nat} {f0 m0 : Int32} (hP : P ≤ 10) (hf : N (18 + r) = f0) (hm : tmM N f0 r = m0) : ∀ k b, k ≤ P → (b = f0 ∧ (∀ p, k ≤ p → p < P → ¬ m0 < N (130 + 6 * p + r)) ∨ ∃ q, k ≤ q ∧ q < P ∧ b = nI q ∧ m0 < N (130 + 6 * q + r) ∧ (∀ p, k ≤ p → p < P → N (130 + 6 * p + r) ≤ N (130 + 6 * q + r)) ∧ ∀ p, k ≤ p → p < q → N (130 + 6 * p + r) < N (130 + 6 * q + r)) → prC (fun p => N (130 + 6 * p + r)) m0 P (prM N r k b) f0
  | 0, b, _, h => by
    rw [prM]
    rcases h with ⟨a1, a2⟩ | ⟨q, a0, a1, a2, a3, a4, a5⟩
    · exact Or.inl ⟨a1, fun p hp => a2 p (Nat.zero_le _) hp⟩
    · exact Or.inr ⟨q, a1, a2, a3, fun p hp => a4 p (Nat.zero_le _) hp, fun p hp => a5 p (Nat.zero_le _) hp⟩
  | k + 1, b, hk, h => by
    rw [prM]
    have ht : ∀ q, q < P → tmM N (nI q) r = N (130 + 6 * q + r) := by
      intro q hq
      unfold tmM
      rw [if_neg (nI_m1 (by omega)), cN_nI (by omega)]
    refine pr_down hP hf hm k _ (by omega) ?_
    unfold prS
    rw [hf, hm, ht k (by omega)]
    rcases h with ⟨a1, a2⟩ | ⟨q, a0, a1, a2, a3, a4, a5⟩
    · rw [a1, hm]
      by_cases c : m0 < N (130 + 6 * k + r)
      · rw [if_pos ⟨c, Int32.le_of_lt c⟩]
        refine Or.inr ⟨k, Nat.le_refl _, by omega, rfl, c, fun p p1 p2 => ?_, fun p p1 p2 => by omega⟩
        rcases Nat.eq_or_lt_of_le p1 with z | z
        · rw [← z]
          exact Int32.le_refl _
        · exact Int32.le_of_lt (Int32.lt_of_le_of_lt (Int32.not_lt.mp (a2 p z p2)) c)
      · rw [if_neg (fun z => c z.1)]
        refine Or.inl ⟨rfl, fun p p1 p2 => ?_⟩
        rcases Nat.eq_or_lt_of_le p1 with z | z
        · rw [← z]
          exact c
        · exact a2 p z p2
    · rw [a2, ht q a1]
      by_cases c : m0 < N (130 + 6 * k + r) ∧ N (130 + 6 * q + r) ≤ N (130 + 6 * k + r)
      · rw [if_pos c]
        refine Or.inr ⟨k, Nat.le_refl _, by omega, rfl, c.1, fun p p1 p2 => ?_, fun p p1 p2 => by omega⟩
        rcases Nat.eq_or_lt_of_le p1 with z | z
        · rw [← z]
          exact Int32.le_refl _
        · exact Int32.le_trans (a4 p z p2) c.2
      · rw [if_neg c]
        have hlt : N (130 + 6 * k + r) < N (130 + 6 * q + r) := by
          refine Int32.not_le.mp (fun z => ?_)
          by_cases y : m0 < N (130 + 6 * k + r)
          · exact c ⟨y, z⟩
          · exact y (Int32.lt_of_lt_of_le a3 z)
        refine Or.inr ⟨q, by omega, a1, rfl, a3, fun p p1 p2 => ?_, fun p p1 p2 => ?_⟩
        · rcases Nat.eq_or_lt_of_le p1 with z | z
          · rw [← z]
            exact Int32.le_of_lt hlt
          · exact a4 p z p2
        · rcases Nat.eq_or_lt_of_le p1 with z | z
          · rw [← z]
            exact hlt
          · exact a5 p z p2
theorem prom_eq (h : SR S N R P B) {r : Nat} (hr : r < R) : (prM N r P (N (18 + r)) = N (18 + r) ↔ (prm S r P P).2 = -1) ∧ (¬ (prm S r P P).2 = -1 → prM N r P (N (18 + r)) = (prm S r P P).2) := by
  have hc := h.2.1
  have hP := h.1.2.1.2
  have hR := h.1.1.2
  have hm : tmM N (N (18 + r)) r = prm0 S r P := by
    unfold tmM prm0
    rw [rc1 hc (by omega)]
    rcases h.1.2.2.2.2.2.1 r (by omega) with z | ⟨q, hq, z⟩
    · rw [z, if_pos rfl, if_neg (fun y => absurd y.1 (by decide))]
    · rw [z, if_neg (nI_m1 (by omega)), if_pos ⟨Int32.not_lt.mp (nI_pos (by omega)), (nn_lt rfl h.1.2.1.1 (by omega) (by omega)).mpr hq⟩]
      show N (130 + 6 * cN (nI q) + r) = S 4 (r * 10 + cN (nI q))
      rw [cN_nI (by omega), rc4 hc (by omega) (by omega)]
  have hd := pr_down (N := N) (P := P) (r := r) hP rfl hm P (N (18 + r)) (Nat.le_refl _) (Or.inl ⟨rfl, fun p p1 p2 => by omega⟩)
  have ht : ∀ p, p < P → N (130 + 6 * p + r) = S 4 (r * 10 + p) := fun p hp => rc4 hc (by omega) (by omega)
  have hfirst : ∀ q, q < P → prm0 S r P < N (130 + 6 * q + r) → ¬ nI q = N (18 + r) := by
    intro q hq hlt e
    have h2 : tmM N (nI q) r = N (130 + 6 * q + r) := by
      unfold tmM
      rw [if_neg (nI_m1 (by omega)), cN_nI (by omega)]
    rw [e, hm] at h2
    rw [← h2] at hlt
    exact Int32.lt_irrefl hlt
  rcases pr_up (S := S) (P := P) (r := r) P with ⟨a1, -, a3⟩ | ⟨q, a1, a2, -, a4, a5, a6⟩
  · rcases hd with ⟨b1, -⟩ | ⟨q, b1, -, b3, -⟩
    · exact ⟨⟨fun _ => a1, fun _ => b1⟩, fun z => absurd a1 z⟩
    · exact absurd b3 (by show ¬ prm0 S r P < N (130 + 6 * q + r); rw [ht q b1]; exact a3 q b1)
  · rcases hd with ⟨b1, b2⟩ | ⟨q', b1, b2, b3, b4, b5⟩
    · exact absurd a4 (by have y0 : ¬ prm0 S r P < N (130 + 6 * q + r) := b2 q a1; rw [ht q a1] at y0; exact y0)
    · have hqq : q' = q := by
        rcases Nat.lt_trichotomy q' q with z | z | z
        · exfalso
          have y1 := a6 q' z
          have y2 : N (130 + 6 * q + r) ≤ N (130 + 6 * q' + r) := b4 q a1
          rw [ht q a1, ht q' b1] at y2
          exact absurd y1 (Int32.not_lt.mpr y2)
        · exact z
        · exfalso
          have y1 : N (130 + 6 * q + r) < N (130 + 6 * q' + r) := b5 q z
          have y2 := a5 q' b1
          rw [ht q a1, ht q' b1] at y1
          exact absurd y1 (Int32.not_lt.mpr y2)
      subst hqq
      have hn : ¬ (prm S r P P).2 = -1 := by
        rw [a2]
        exact nI_m1 (by omega)
      refine ⟨⟨fun z => absurd (b2.symm.trans z) (hfirst q' b1 b3), fun z => absurd z hn⟩, fun _ => by rw [a2, b2]⟩
theorem prom_k {r : Int32} (h : SR S N R P B) : kPromM N P r = kPromote S P r := by
  unfold kPromM kPromote
  by_cases c : isRo S r
  · have hR := h.1.1.2
    obtain ⟨-, hrR⟩ := idx_cN h.1.1.1 (by omega) c
    have c2 : isRoM N r := by
      unfold isRoM
      rw [rc10 h.2.1]
      exact c
    rw [if_neg (show ¬ ¬ isRoM N r from fun z => z c2), if_neg (show ¬ ¬ isRo S r from fun z => z c)]
    by_cases d : (prm S (cN r) P P).2 = -1
    · rw [if_pos d, if_pos ((prom_eq h hrR).1.mpr d)]
    · rw [if_neg d, if_neg (fun z => d ((prom_eq h hrR).1.mp z))]
  · rw [if_pos c, if_pos]
    intro z
    unfold isRoM at z
    rw [rc10 h.2.1] at z
    exact c z
theorem prom_fp (h : SR S N R P B) : ∀ q, q < R → isPn (N (18 + q)) := by
  intro q hq
  have hR := h.1.1.2
  have hP := h.1.2.1.2
  rw [rc1 h.2.1 (by omega)]
  rcases h.1.2.2.2.2.2.1 q (by omega) with z | ⟨u, hu, z⟩
  · exact Or.inl z
  · exact Or.inr ⟨u, by omega, z⟩
end A4

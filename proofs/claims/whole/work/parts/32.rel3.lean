/-! what reading methods answer: the same on both sides -/
section A3
variable {S : HV} {N : Nat → Int32} {R P B : Nat}
theorem sum_eq (hc : RelC S N) : ∀ k, k ≤ 10 → sumM N k = sumN (S 5) k
  | 0, _ => rfl
  | k + 1, hk => by rw [sumM, sumN, sum_eq hc k (by omega), rc5 hc (by omega)]
theorem ab_eq {w : Int32} (h : SR S N R P B) (hw : inR w 0 7) : mAb N P (cN w) = abF S P w := by
  obtain ⟨e, -, hq⟩ := rng_cN (lo := 0) (hi := 7) hw (by decide)
  have hc := h.2.1
  generalize cN w = q at e hq
  subst e
  rcases (show q = 0 ∨ q = 1 ∨ q = 2 ∨ q = 3 ∨ q = 4 ∨ q = 5 ∨ q = 6 ∨ q = 7 by omega) with rfl | rfl | rfl | rfl | rfl | rfl | rfl | rfl
  · exact rc10 hc
  · exact rc11 hc
  · exact rc12 hc
  · exact rc13 hc
  · exact rc14 hc
  · exact sum_eq hc P h.1.2.1.2
  · exact rc16 hc
  · exact rc15 hc
theorem cnt_eq (hc : RelC S N) {r : Nat} (hr : r < 6) : ∀ k, k ≤ 10 → cntM N r k = cntC S r k
  | 0, _ => rfl
  | k + 1, hk => by
    rw [cntM, cntC, cnt_eq hc hr k (by omega), rc3 hc (by omega) hr]
    by_cases c : hFree S k ∧ 0 < S 3 (r * 10 + k)
    · rw [if_pos c, if_pos ⟨(free_iff hc (by omega)).mpr c.1, c.2⟩]
    · rw [if_neg c, if_neg (fun z => c ⟨(free_iff hc (by omega)).mp z.1, z.2⟩), Int32.add_zero]
theorem role_k {r w : Int32} (hc : RelC S N) : kRoM N r w = kRole S r w := by
  unfold kRoM kRole isRoM isRo
  rw [rc10 hc]
theorem role_eq {r w : Int32} (h : SR S N R P B) (hk : kRole S r w = 0) : mRl N R P (cN r) (cN w) = rlF S R P r w := by
  have hc := h.2.1
  have hR := h.1.1.2
  have hr : isRo S r := Decidable.byContradiction fun z => by
    unfold kRole at hk
    rw [if_pos z] at hk
    exact absurd hk (by decide)
  have hw : inR w 0 4 := Decidable.byContradiction fun z => by
    unfold kRole at hk
    rw [if_neg (fun y => y hr), if_pos z] at hk
    exact absurd hk (by decide)
  obtain ⟨-, hrR⟩ := idx_cN h.1.1.1 (by omega) hr
  obtain ⟨e, -, hq⟩ := rng_cN (lo := 0) (hi := 4) hw (by decide)
  generalize cN w = q at e hq
  subst e
  rcases (show q = 0 ∨ q = 1 ∨ q = 2 ∨ q = 3 ∨ q = 4 by omega) with rfl | rfl | rfl | rfl | rfl
  · exact rc0 hc (by omega)
  · exact rc1 hc (by omega)
  · exact csG_eq h.1 hc hrR
  · show (if N 10 = 1 then N (24 + cN r) else -1) = (if S 16 0 = 0 then -1 else S 2 (cN r))
    rw [rc16 hc]
    rcases h.1.2.2.1 with z | z
    · rw [z]
      rfl
    · rw [h.2.2 z _ hrR, z]
      rfl
  · exact cnt_eq hc (by omega) P h.1.2.1.2
theorem player_k {p w : Int32} (hc : RelC S N) : kPlM N p w = kPlayer S p w := by
  unfold kPlM kPlayer isPlM isPl
  rw [rc11 hc]
theorem cs_pk (hP : P ≤ 10) {w : Nat → Nat → Int32} (hd : ¬ dpS w R P R 0 = -1) {r : Nat} (hr : r < R) : csF w R P r = nI (pick w R P r (tkF w R P r)) ∧ pick w R P r (tkF w R P r) < P := by
  obtain ⟨a1, -⟩ := tkF_spec hP hd r (by omega)
  obtain ⟨b1, -⟩ := pick_spec hr a1
  exact ⟨by rw [csF, if_neg hd], b1⟩
/-- nobody plays two roles -/
theorem cs_one (hP : P ≤ 10) {w : Nat → Nat → Int32} {p r r' : Nat} (hp : p < 2 ^ 31) (hr : r < r') (hr' : r' < R) (e : csF w R P r = nI p) (e' : csF w R P r' = nI p) : False := by
  have hd : ¬ dpS w R P R 0 = -1 := fun z => nI_m1 hp (by rw [← e, csF, if_pos z])
  obtain ⟨c1, c2⟩ := cs_pk hP hd (show r < R by omega)
  obtain ⟨d1, d2⟩ := cs_pk hP hd hr'
  have e1 : pick w R P r (tkF w R P r) = p := (nn_eq c1 e (by omega) hp).mp rfl
  have e2 : pick w R P r' (tkF w R P r') = p := (nn_eq d1 e' (by omega) hp).mp rfl
  obtain ⟨a1, -⟩ := tkF_spec hP hd r' (by omega)
  obtain ⟨-, -, b3, -⟩ := pick_spec hr' a1
  have b4 := (tk_bit (w := w) (R := R) (P := P) (j := p) r').mpr ⟨r, hr, e1⟩
  rw [e2, b4] at b3
  cases b3
theorem lst_eq (h : SR S N R P B) {p : Nat} (hp : p < P) : lstM N R P (nI p) R = fstF (fun r => decide (hCs S R P r = nI p)) 0 R := by
  have hP := h.1.2.1.2
  have hR := h.1.1.2
  have key : ∀ k, k ≤ R → (∀ r, k ≤ r → r < R → ¬ hCs S R P r = nI p) → lstM N R P (nI p) k = fstF (fun r => decide (hCs S R P r = nI p)) 0 R := by
    intro k
    induction k with
    | zero =>
      intro _ hn
      exact ((fstF_neg R 0 (by omega)).mpr (fun r a b => decide_eq_false (hn r (Nat.zero_le _) (by omega)))).symm
    | succ k ih =>
      intro hk hn
      rw [lstM, csG_eq h.1 h.2.1 (show k < R by omega)]
      by_cases c : hCs S R P k = nI p
      · rw [if_pos c]
        have hF : ∀ j, j ≤ k → fstF (fun r => decide (hCs S R P r = nI p)) 0 R = fstF (fun r => decide (hCs S R P r = nI p)) j (R - j) := by
          intro j
          induction j with
          | zero => intro _; rfl
          | succ j ihj =>
            intro hj
            rw [ihj (by omega)]
            exact fstF_step (by omega) (by rw [decide_eq_true_eq]; exact fun z => cs_one hP (by omega) (show j < k by omega) (by omega) z c)
        rw [hF k (Nat.le_refl _)]
        exact (fstF_hit (by omega) (decide_eq_true c)).symm
      · rw [if_neg c]
        refine ih (by omega) (fun r a b => ?_)
        rcases Nat.eq_or_lt_of_le a with z | z
        · rw [← z]
          exact c
        · exact hn r z b
  exact key R (Nat.le_refl _) (fun r a b => by omega)
theorem player_eq {p w : Int32} (h : SR S N R P B) (hB : B < 2 ^ 29) (hk : kPlayer S p w = 0) : mPl N R P (cN p) (cN w) = plF S R P p w := by
  have hc := h.2.1
  have hP := h.1.2.1.2
  have hp : isPl S p := Decidable.byContradiction fun z => by
    unfold kPlayer at hk
    rw [if_pos z] at hk
    exact absurd hk (by decide)
  have hw : inR w 0 5 := Decidable.byContradiction fun z => by
    unfold kPlayer at hk
    rw [if_neg (fun y => y hp), if_pos z] at hk
    exact absurd hk (by decide)
  obtain ⟨ep, hpP⟩ := idx_cN h.1.2.1.1 (by omega) hp
  obtain ⟨e, -, hq⟩ := rng_cN (lo := 0) (hi := 5) hw (by decide)
  generalize cN w = q at e hq
  subst e
  rcases (show q = 0 ∨ q = 1 ∨ q = 2 ∨ q = 3 ∨ q = 4 ∨ q = 5 by omega) with rfl | rfl | rfl | rfl | rfl | rfl
  · exact rc5 hc (by omega)
  · exact rc6 hc (by omega)
  · show (if N 0 < N (50 + cN p) then N (50 + cN p) - N 0 else 0) = (if 0 < S 7 (cN p) - S 12 0 then S 7 (cN p) - S 12 0 else 0)
    rw [rc12 hc, rc7 hc (by omega)]
    obtain ⟨t, t1, t2⟩ := h.1.2.2.2.2.2.2.1
    obtain ⟨u, u1, u2⟩ := h.1.2.2.2.2.2.2.2.1 (cN p) (by omega)
    rw [t2, u2]
    have hs := pk_sub_toInt (a := u) (b := t) (by omega) (by omega)
    by_cases c : t < u
    · rw [if_pos ((nI_ltI (by omega) (by omega)).mpr c), if_pos]
      rw [Int32.lt_iff_toInt_lt, hs, show (0 : Int32).toInt = 0 by decide]
      omega
    · rw [if_neg (fun z => c ((nI_ltI (by omega) (by omega)).mp z)), if_neg]
      rw [Int32.lt_iff_toInt_lt, hs, show (0 : Int32).toInt = 0 by decide]
      omega
  · show bI (mFree N (cN p)) = bI (hFree S (cN p))
    exact bI_cong (free_iff hc (by omega))
  · exact rc8 hc (by omega)
  · show lstM N R P (nI (cN p)) R = fstF (fun r => decide (hCs S R P r = p)) 0 R
    rw [lst_eq h hpP, ← ep]
theorem both_k {p r w : Int32} (hc : RelC S N) : kBoM N p r w = kBoth S p r w := by
  unfold kBoM kBoth isPlM isPl isRoM isRo
  rw [rc11 hc, rc10 hc]
theorem both_eq {p r w : Int32} (h : SR S N R P B) (hk : kBoth S p r w = 0) : mBo N (cN p) (cN r) (cN w) = boF S p r w := by
  have hc := h.2.1
  have hP := h.1.2.1.2
  have hR := h.1.1.2
  have hpr : isPl S p ∧ isRo S r := Decidable.byContradiction fun z => by
    unfold kBoth at hk
    rw [if_pos (by by_cases y : isPl S p; exact Or.inr (fun x => z ⟨y, x⟩); exact Or.inl y)] at hk
    exact absurd hk (by decide)
  have hw : inR w 0 2 := Decidable.byContradiction fun z => by
    unfold kBoth at hk
    rw [if_neg (fun y => y.elim (fun x => x hpr.1) (fun x => x hpr.2)), if_pos z] at hk
    exact absurd hk (by decide)
  obtain ⟨-, hpP⟩ := idx_cN h.1.2.1.1 (by omega) hpr.1
  obtain ⟨-, hrR⟩ := idx_cN h.1.1.1 (by omega) hpr.2
  obtain ⟨e, -, hq⟩ := rng_cN (lo := 0) (hi := 2) hw (by decide)
  generalize cN w = q at e hq
  subst e
  rcases (show q = 0 ∨ q = 1 ∨ q = 2 by omega) with rfl | rfl | rfl
  · exact rc3 hc (by omega) (by omega)
  · exact rc4 hc (by omega) (by omega)
  · exact mW_eq hc (by omega) (by omega)
theorem setting_eq {w : Int32} (h : SR S N R P B) (hk : kUp w 4 = 0) : N (5 + cN w) = S 9 (cN w) := by
  have hw : inR w 0 4 := Decidable.byContradiction fun z => by
    unfold kUp at hk
    rw [if_neg z] at hk
    exact absurd hk (by decide)
  obtain ⟨-, -, hq⟩ := rng_cN (lo := 0) (hi := 4) hw (by decide)
  exact rc9 h.2.1 (by omega)
theorem plc_eq (hc : RelC S N) {p : Nat} (hp : p < 10) : ∀ k, k ≤ 10 → plcM N p k = plc S p k
  | 0, _ => rfl
  | k + 1, hk => by
    rw [plcM, plc, plc_eq hc hp k (by omega), rc5 hc hp, rc5 hc (show k < 10 by omega)]
    by_cases c : S 5 p < S 5 k ∨ (S 5 k = S 5 p ∧ k < p)
    · rw [if_pos c, if_pos c]
    · rw [if_neg c, if_neg c, Int32.add_zero]
theorem rank_eq {k : Int32} (h : SR S N R P B) : fstF (fun p => decide (plcM N p P = k)) 0 P = fstF (fun p => decide (plc S p P = k)) 0 P := by
  have hP := h.1.2.1.2
  exact fstF_cong P 0 (fun p _ hp => by rw [plc_eq h.2.1 (by omega) P hP])
/-! without a player -/
theorem lk_eq (h : SR S N R P B) (hB : B < 2 ^ 29) {b : Nat} (hb : b < P) : mStr (mLk N b) R P = dpS (wFr S (frB S b P)) R P R 0 := by
  have hc := h.2.1
  have hP := h.1.2.1.2
  obtain ⟨t, t1, t2⟩ := h.1.2.2.2.2.2.2.1
  have hS : hI (hset S 7 b (N 0 + 1)) R P (B + 99) := by
    have h1 := (away_rel (d := 1) h hb (by decide)).1
    have h2 := hI_more h1 (show B ≤ B + 99 by omega)
    rw [show hAway S b 1 = hset S 7 b (N 0 + 1) by unfold hAway; rw [rc12 hc]; rfl] at h2
    exact h2
  have hC : RelC (hset S 7 b (N 0 + 1)) (mLk N b) := rel_set 7 b hc (by decide) (show b < 10 by omega) rfl
  have hF : ∀ p, p < P → ((frB S b P).testBit p = true ↔ mFree (mLk N b) p) := by
    intro p hp
    rw [frB_bit]
    have e0 : mLk N b 0 = N 0 := pk_un (by omega)
    have e5 : mLk N b 5 = N 5 := pk_un (by omega)
    have e4 : mLk N b (40 + p) = N (40 + p) := pk_un (by omega)
    unfold mFree
    rw [e0, e5, e4]
    by_cases c : p = b
    · subst c
      rw [show mLk N p (50 + p) = N 0 + 1 from pk_us]
      constructor
      · intro z
        exact absurd rfl z.2.2
      · intro z
        exfalso
        have z2 := z.1
        rw [rc12 hc, t2, nI_1] at z2
        have := (nI_leI (by omega) (by omega)).mp z2
        omega
    · rw [show mLk N b (50 + p) = N (50 + p) from pk_un (by omega)]
      have hf := free_iff hc (show p < 10 by omega)
      constructor
      · intro z
        exact hf.mpr z.2.1
      · intro z
        exact ⟨hp, hf.mp z, c⟩
  refine dpS_cong (fun p r hp hr => ?_) R (Nat.le_refl _) 0
  rw [wM_eq hS hC hF p r hp hr]
  rfl
theorem with_k {p : Int32} (hc : RelC S N) : kWithM N p = kWith S p := by
  unfold kWithM kWith isPlM isPl
  rw [rc11 hc]
theorem mm_eq (h : SR S N R P B) (hB : B < 2 ^ 29) : ∀ k, k ≤ P → mmM N R P k = mmF S R P k
  | 0, _ => rfl
  | k + 1, hk => by
    have hP := h.1.2.1.2
    rw [mmM, mmF, mm_eq h hB k (by omega), lk_eq h hB (show k < P by omega)]
    by_cases c : hFree S k
    · rw [if_pos c, if_pos ((free_iff h.2.1 (by omega)).mpr c)]
    · rw [if_neg c, if_neg (fun z => c ((free_iff h.2.1 (by omega)).mp z))]
theorem mis_eq (h : SR S N R P B) (hB : B < 2 ^ 29) : misM N R P = misF S R P := by
  unfold misM misF
  rw [mm_eq h hB P (Nat.le_refl _)]
  by_cases c : R = 0 ∨ hStr S R P = -1
  · rw [if_pos c, if_pos (c.elim Or.inl (fun z => Or.inr ((str_neg h.1 h.2.1).mpr z)))]
  · rw [if_neg c, if_neg (fun z => c (z.elim Or.inl (fun y => Or.inr ((str_neg h.1 h.2.1).mp y))))]
/-! days to come, degrees -/
theorem pn_rel (h : SR S N R P B) : ∀ k, SR (hPn S R P k) (mPn N R P k) R P (B + k)
  | 0 => h
  | k + 1 => (play_rel (pn_rel h k)).1
theorem pn_ok (h : SR S N R P B) : ∀ k, k < 30 → mOK (mPn N R P k) R P := fun k _ => ok_of (pn_rel h k).1 (pn_rel h k).2.1
theorem dy_eq (h : SR S N R P B) : ∀ k, dyM N R P k = dyF S R P k
  | 0 => rfl
  | k + 1 => by
    rw [dyM, dyF, dy_eq h k, (play_rel (pn_rel h k)).2]
    by_cases c : hPaid (hPn S R P k) R P = -1
    · rw [if_pos c, if_pos c]
      exact Int32.or_zero
    · rw [if_neg c, if_neg c]
theorem com_k {n : Int32} (h : SR S N R P B) : kComM R n = kComing S n := by
  unfold kComM kComing
  have hR := h.1.1.2
  have e : (R = 0) ↔ (S 10 0 = 0) := (nn_eq (a := R) (b := 0) h.1.1.1 rfl (by omega) (by decide)).symm
  by_cases c : R = 0
  · rw [if_pos c, if_pos (e.mp c)]
  · rw [if_neg c, if_neg (fun z => c (e.mpr z))]
theorem deg_k {p r : Int32} (hc : RelC S N) : kDegM N p r = kDeg S p r := by
  unfold kDegM kDeg isPlM isPl isRoM isRo
  rw [rc11 hc, rc10 hc]
theorem deg_ok (h : SR S N R P B) {p r : Nat} (hp : p < P) (hr : r < R) : ∀ d, 1 ≤ d → d < 10 → mOK (mDg N p r d) R P := fun d _ hd => by
  have h1 := ready_rel h hp hr (show d ≤ 9 by omega)
  exact ok_of h1.1 h1.2.1
theorem deg_eq (h : SR S N R P B) {p r : Nat} (hp : p < P) (hr : r < R) : fstF (ldM N R P p r) 1 9 = fstF (ldF S R P p r) 1 9 := by
  refine fstF_cong 9 1 (fun d _ hd => ?_)
  have h1 := ready_rel h hp hr (show d ≤ 9 by omega)
  unfold ldM ldF
  rw [csG_eq h1.1 h1.2.1 hr]
  exact decide_eq_decide.mpr ⟨fun z => ⟨hp, hr, z⟩, fun z => z.2.2⟩
end A3

/-! scripts, simulations, houses in texts: the same on both sides -/
section A5
variable {S : HV} {N : Nat → Int32} {R P B : Nat}
theorem mpost_0 (h : SR S N R P B) (hd : hStr S R P = -1) : mPost N R P = N := if_pos ((str_neg h.1 h.2.1).mpr hd)
theorem mpost_rel (h : SR S N R P B) (hR : 0 < R) : SR (if R ≠ 0 ∧ hStr S R P ≠ -1 then hPost S R P else S) (mPost N R P) R P B := by
  by_cases c : hStr S R P = -1
  · rw [if_neg (fun z => z.2 c), mpost_0 h c]
    exact h
  · rw [if_pos ⟨by omega, c⟩]
    exact post_rel h c
theorem suc_rel {g : Nat} (h : SR S N R P B) (hg : g < 10000) : SR (sucS S R P g) (msS N R P g) R P (B + 99) := by
  have hb : B ≤ B + 99 := by omega
  have hm := SR_more h hb
  unfold sucS msS
  by_cases e1 : g / 1000 = 1
  · rw [if_pos e1, if_pos e1]
    by_cases c : g / 100 % 10 < P ∧ g / 10 % 10 < R
    · rw [if_pos c, if_pos c]
      exact SR_more (ready_rel h c.1 c.2 (by omega)) hb
    · rw [if_neg c, if_neg c]
      exact hm
  rw [if_neg e1, if_neg e1]
  by_cases e2 : g / 1000 = 2
  · rw [if_pos e2, if_pos e2]
    by_cases c : g % 10 = 0 ∧ g / 10 % 10 < P ∧ g / 100 % 10 < R
    · rw [if_pos c.1, if_pos c.2, if_pos ⟨c.2.2, c.2.1, c.1⟩]
      exact SR_more (first_rel h c.2.1 c.2.2) hb
    · rw [if_neg (show ¬ (g / 100 % 10 < R ∧ g / 10 % 10 < P ∧ g % 10 = 0) from fun z => c ⟨z.2.2, z.2.1, z.1⟩)]
      by_cases d : g % 10 = 0
      · rw [if_pos d, if_neg (fun z => c ⟨d, z⟩)]
        exact hm
      · rw [if_neg d]
        exact hm
  rw [if_neg e2, if_neg e2]
  by_cases e3 : g / 1000 = 3
  · rw [if_pos e3, if_pos e3]
    by_cases c : g / 10 % 10 = 0 ∧ g / 100 % 10 < P ∧ 1 ≤ g % 10 ∧ g % 10 ≤ 99
    · rw [if_pos c.1, if_pos c.2, if_pos (show g / 100 % 10 < P ∧ g / 10 % 10 = 0 ∧ 0 < g % 10 from ⟨c.2.1, c.1, by omega⟩)]
      exact SR_more (away_rel h c.2.1 (by omega)) hb
    · rw [if_neg (show ¬ (g / 100 % 10 < P ∧ g / 10 % 10 = 0 ∧ 0 < g % 10) from fun z => c ⟨z.2.1, z.1, by omega, by omega⟩)]
      by_cases d : g / 10 % 10 = 0
      · rw [if_pos d, if_neg (fun z => c ⟨d, z⟩)]
        exact hm
      · rw [if_neg d]
        exact hm
  rw [if_neg e3, if_neg e3]
  by_cases e4 : g / 1000 = 4
  · rw [if_pos e4, if_pos e4]
    by_cases c : g = 4000
    · rw [if_pos c]
      by_cases r : 0 < R
      · rw [if_pos (show g = 4000 ∧ 0 < R from ⟨c, r⟩)]
        exact SR_more (mpost_rel h r) hb
      · rw [if_neg (show ¬ (g = 4000 ∧ 0 < R) from fun z => r z.2), if_neg (fun z => r (by omega))]
        exact hm
    · rw [if_neg c, if_neg (fun z => c z.1)]
      exact hm
  rw [if_neg e4, if_neg e4]
  by_cases e5 : g / 1000 = 5
  · rw [if_pos e5, if_pos e5]
    by_cases c : g = 5000
    · rw [if_pos c]
      by_cases r : 0 < R
      · rw [if_pos r, if_pos (show g = 5000 ∧ 0 < R from ⟨c, r⟩)]
        exact SR_more (play_rel h).1 (by omega)
      · rw [if_neg r, if_neg (fun z => r z.2)]
        exact hm
    · rw [if_neg c, if_neg (fun z => c z.1)]
      exact hm
  rw [if_neg e5, if_neg e5]
  by_cases e6 : g / 1000 = 6
  · rw [if_pos e6, if_pos e6]
    have e : 10 * (g / 10 % 10) + g % 10 = g % 100 := by omega
    rw [e]
    by_cases c : g / 100 % 10 = 0 ∧ 0 < g % 100
    · rw [if_pos c.1, if_pos ⟨c.2, by omega⟩, if_pos c]
      exact SR_more (dark_rel h c.2) (by omega)
    · rw [if_neg c]
      by_cases d : g / 100 % 10 = 0
      · rw [if_pos d, if_neg (fun z => c ⟨d, z.1⟩)]
        exact hm
      · rw [if_neg d]
        exact hm
  rw [if_neg e6, if_neg e6]
  exact hm
theorem suc_eq {g : Nat} (h : SR S N R P B) (hg : g < 10000) : msB N R P g = sucB S R P g := by
  have hR := h.1.1.2
  have hP := h.1.2.1.2
  unfold sucB msB
  by_cases e1 : g / 1000 = 1
  · rw [if_pos e1, if_pos e1]
  rw [if_neg e1, if_neg e1]
  by_cases e2 : g / 1000 = 2
  · rw [if_pos e2, if_pos e2]
    exact decide_eq_decide.mpr ⟨fun z => ⟨z.2.2, z.2.1, z.1⟩, fun z => ⟨z.2.2, z.2.1, z.1⟩⟩
  rw [if_neg e2, if_neg e2]
  by_cases e3 : g / 1000 = 3
  · rw [if_pos e3, if_pos e3]
    exact decide_eq_decide.mpr ⟨fun z => ⟨z.2.1, z.1, by omega, by omega⟩, fun z => ⟨z.2.1, z.1, by omega⟩⟩
  rw [if_neg e3, if_neg e3]
  by_cases e4 : g / 1000 = 4
  · rw [if_pos e4, if_pos e4]
    exact decide_eq_decide.mpr ⟨fun z => ⟨z.1, by omega, fun y => z.2.2 ((str_neg h.1 h.2.1).mpr y)⟩, fun z => ⟨z.1, by omega, fun y => z.2.2 ((str_neg h.1 h.2.1).mp y)⟩⟩
  rw [if_neg e4, if_neg e4]
  by_cases e5 : g / 1000 = 5
  · rw [if_pos e5, if_pos e5, (play_rel h).2]
  rw [if_neg e5, if_neg e5]
  by_cases e6 : g / 1000 = 6
  · rw [if_pos e6, if_pos e6]
    exact decide_eq_decide.mpr ⟨fun z => ⟨z.1, by omega, by omega⟩, fun z => ⟨z.1, by omega⟩⟩
  rw [if_neg e6, if_neg e6]
  by_cases e7 : g / 1000 = 7
  · rw [if_pos e7, if_pos e7]
    refine decide_eq_decide.mpr ⟨fun z => ⟨z.1, z.2.2.1, z.2.1, ?_⟩, fun z => ⟨z.1, z.2.2.1, z.2.1, ?_⟩⟩
    · rw [← csG_eq h.1 h.2.1 z.2.1]
      exact z.2.2.2
    · rw [csG_eq h.1 h.2.1 z.2.2.1]
      exact z.2.2.2
  rw [if_neg e7, if_neg e7]
  by_cases e8 : g / 1000 = 8
  · rw [if_pos e8, if_pos e8, str_eq h.1 h.2.1]
  rw [if_neg e8, if_neg e8]
  by_cases e9 : g / 1000 = 9
  · rw [if_pos e9, if_pos e9]
    refine decide_eq_decide.mpr ⟨fun z => ⟨z.1, ?_⟩, fun z => ⟨z.1, ?_⟩⟩
    · rw [← rc5 h.2.1 (by omega)]
      exact z.2
    · rw [rc5 h.2.1 (by omega)]
      exact z.2
  rw [if_neg e9, if_neg e9]
theorem ff_rel (h : SR S N R P B) (n s : Nat) : ∀ i, SR (ffS S R P n s i) (mfS N R P n s i) R P (B + 99 * i)
  | 0 => h
  | i + 1 => SR_more (suc_rel (ff_rel h n s i) (Nat.mod_lt _ (by decide))) (by omega)
theorem ff_ok (h : SR S N R P B) (n s : Nat) : ∀ i, i < n → mOK (mfS N R P n s i) R P := fun i _ => ok_of (ff_rel h n s i).1 (ff_rel h n s i).2.1
theorem ff_eq (h : SR S N R P B) (n s : Nat) : fstF (mfF N R P n s) 0 n = fstF (ffF S R P n s) 0 n := by
  refine fstF_cong n 0 (fun i _ _ => ?_)
  unfold mfF ffF
  rw [suc_eq (ff_rel h n s i) (Nat.mod_lt _ (by decide))]
theorem lN_ltS {x : Int64} {q : Nat} (hx : x = lN (sN x) ∧ sN x < 2 ^ 63) (hq : q < 2 ^ 63) : x < lN q ↔ sN x < q := by
  have e : x.toInt = ((sN x : Nat) : Int) := by
    have := congrArg Int64.toInt hx.1
    rw [lN_toInt6 hx.2] at this
    exact this
  rw [Int64.lt_iff_toInt_lt, e, lN_toInt6 hq]
  omega
theorem run_k (n : Int32) (x : Int64) : kRunM n x = kRun n x := by
  unfold kRunM kRun
  by_cases c : inR n 1 3
  · rw [if_neg (show ¬ ¬ inR n 1 3 from fun z => z c)]
    by_cases d : x < 0
    · rw [if_neg (fun z => z.2.1 d), if_pos (Or.inl d)]
    · have hx := sN_e d
      obtain ⟨e, q1, q3⟩ := rng_cN (lo := 1) (hi := 3) c (by decide)
      have hl : lmM n = 10000 ^ cN n := by
        generalize cN n = q at e q1 q3
        subst e
        rcases (show q = 1 ∨ q = 2 ∨ q = 3 by omega) with rfl | rfl | rfl
        · rfl
        · rfl
        · rfl
      have hp : 10000 ^ cN n < 2 ^ 63 := Nat.lt_of_le_of_lt (Nat.pow_le_pow_right (by decide) q3) (by decide)
      have hpos : 0 < 10000 ^ cN n := Nat.pos_of_ne_zero (fun z => by have := Nat.pow_eq_zero.mp z; omega)
      have hiff : x < lN (lmM n) ↔ sN x / 10000 ^ cN n = 0 := by
        rw [hl, lN_ltS hx hp, Nat.div_eq_zero_iff]
        omega
      by_cases f : sN x / 10000 ^ cN n = 0
      · rw [if_pos ⟨c, d, hiff.mpr f⟩, if_neg (fun z => z.elim d (fun y => y f))]
      · rw [if_neg (fun z => f (hiff.mp z.2.2)), if_pos (Or.inr f)]
  · rw [if_neg (fun z => c z.1), if_pos c]
/-! simulations -/
theorem sd_rel (h : SR S N R P B) (hR : 0 < R) (hP : 0 < P) (r : Nat) : SR (sdS S R P r) (mdS N R P r) R P (B + 1) := by
  have hlt : r / 8 % P < P := Nat.mod_lt _ hP
  have h5 : r / 128 % 5 < 5 := Nat.mod_lt _ (by decide)
  unfold sdS mdS
  by_cases e0 : r % 8 = 0
  · rw [if_pos e0, if_neg (show ¬ r % 8 = 2 by omega), if_pos e0, if_pos ⟨hlt, by omega, by omega⟩]
    have h1 := away_rel (d := 1 + r / 128 % 5) h hlt (by omega)
    rw [show N 0 + nI (1 + r / 128 % 5) = N 0 + 1 + nI (r / 128 % 5) by rw [Int32.add_assoc, ← nI_add]; rfl] at h1
    exact (play_rel h1).1
  · rw [if_neg e0]
    by_cases e1 : r % 8 = 1
    · rw [if_pos e1, if_neg (show ¬ r % 8 = 2 by omega), if_neg e0, if_pos e1, if_pos ⟨hlt, by omega, by omega⟩]
      have h1 := away_rel (d := 1) (mpost_rel h hR) hlt (by omega)
      exact (play_rel h1).1
    · rw [if_neg e1]
      by_cases e2 : r % 8 = 2
      · rw [if_pos e2, if_pos e2, if_pos ⟨by omega, by omega⟩]
        exact dark_rel h (by omega)
      · rw [if_neg e2, if_neg e2, if_neg e0, if_neg e1]
        exact (play_rel h).1
theorem sm_rel (h : SR S N R P B) (hR : 0 < R) (hP : 0 < P) (x : Int64) : ∀ k, SR (smS S R P x k) (mmS N R P x k) R P (B + k)
  | 0 => h
  | k + 1 => by
    rw [smS, mmS]
    exact sd_rel (sm_rel h hR hP x k) hR hP _
theorem sm_ok (h : SR S N R P B) (x : Int64) (m : Nat) : 0 < P ∧ 0 < R → ∀ k, k < m → mOK (mmS N R P x k) R P := fun z k _ => ok_of (sm_rel h z.2 z.1 x k).1 (sm_rel h z.2 z.1 x k).2.1
theorem sim_eq (h : SR S N R P B) (x : Int64) (m : Nat) : smM N R P x m = simR S R P x m := by
  unfold smM simR
  by_cases c : P = 0 ∨ R = 0
  · rw [if_pos c, if_neg (show ¬ (0 < P ∧ 0 < R) by omega)]
    show 1000 * (N 1 - N 1) + N 2 - N 2 = 0
    rw [Int32.sub_self, Int32.mul_zero, Int32.zero_add, Int32.sub_self]
  · have hr := sm_rel h (show 0 < R by omega) (show 0 < P by omega) x m
    rw [if_neg c, if_pos (show 0 < P ∧ 0 < R by omega), rc13 hr.2.1, rc14 hr.2.1, rc13 h.2.1, rc14 h.2.1]
end A5
theorem pos_pow4 (n : Nat) : 0 < 10000 ^ n := Nat.pos_of_ne_zero (fun z => by have := Nat.pow_eq_zero.mp z; omega)
/-! houses in texts -/
def XR (X : HV × Nat × Nat) (Y : (Nat → Int32) × Nat × Nat) (B : Nat) : Prop := SR X.1 Y.1 X.2.1 X.2.2 B ∧ X.2 = Y.2
theorem dn_rel {ch : Nat → Nat} {L p : Nat} {S : HV} {N : Nat → Int32} {R P B : Nat} (h : SR S N R P B) (hz : S 16 0 = 0) (hok : okC ch L p) : XR (dnT (S, R, P) (ch p) (ch (p + 1) - 48) (ch (p + 2) - 48) (ch (p + 3) - 48)) (mnT (N, R, P) (ch p) (ch (p + 1) - 48) (ch (p + 2) - 48) (ch (p + 3) - 48)) (B + 99) ∧ mnB (N, R, P) (ch p) (ch (p + 1) - 48) (ch (p + 2) - 48) = dnB (S, R, P) (ch p) (ch (p + 1) - 48) (ch (p + 2) - 48) := by
  have hb : B ≤ B + 99 := by omega
  have hm := SR_more h hb
  have hd := hok.2
  unfold dnT mnT dnB mnB
  by_cases e1 : ch p = 97
  · simp only [if_pos e1]
    have d1 := hd 1 (by decide) (by rw [e1]; decide)
    have d2 := hd 2 (by decide) (by rw [e1]; decide)
    rw [e1] at d1 d2
    have a1 : gdD 97 1 = 57 := rfl
    have a2 : gdD 97 2 = 57 := rfl
    have a3 : ldD 97 2 = 49 := rfl
    refine ⟨⟨?_, rfl⟩, decide_eq_decide.mpr ⟨fun z => ⟨z, by omega, by omega⟩, fun z => z.1⟩⟩
    show SR (if ch (p + 1) - 48 < P ∧ 1 ≤ ch (p + 2) - 48 ∧ ch (p + 2) - 48 ≤ 99 then hAway S (ch (p + 1) - 48) (ch (p + 2) - 48) else S) (if ch (p + 1) - 48 < P then upd N (50 + (ch (p + 1) - 48)) (N 0 + nI (ch (p + 2) - 48)) else N) R P (B + 99)
    by_cases c : ch (p + 1) - 48 < P
    · rw [if_pos ⟨c, by omega, by omega⟩, if_pos c]
      exact SR_more (away_rel h c (by omega)) hb
    · rw [if_neg (fun z => c z.1), if_neg c]
      exact hm
  simp only [if_neg e1]
  by_cases e2 : ch p = 100
  · simp only [if_pos e2]
    have d1 := hd 1 (by decide) (by rw [e2]; decide)
    rw [e2] at d1
    have a1 : gdD 100 1 = 57 := rfl
    have a3 : ldD 100 1 = 49 := rfl
    refine ⟨⟨?_, rfl⟩, (decide_eq_true ⟨by omega, by omega⟩).symm⟩
    show SR (if 1 ≤ ch (p + 1) - 48 ∧ ch (p + 1) - 48 ≤ 99 then hPass S (ch (p + 1) - 48) else S) (mDk N (ch (p + 1) - 48) P) R P (B + 99)
    rw [if_pos ⟨by omega, by omega⟩]
    exact SR_more (dark_rel h (by omega)) (by omega)
  simp only [if_neg e2]
  by_cases e3 : ch p = 102
  · simp only [if_pos e3]
    refine ⟨⟨?_, rfl⟩, decide_eq_decide.mpr ⟨fun z => ⟨z.2, z.1⟩, fun z => ⟨z.2, z.1⟩⟩⟩
    show SR (if ch (p + 2) - 48 < P ∧ ch (p + 1) - 48 < R then hset S 1 (ch (p + 1) - 48) (nI (ch (p + 2) - 48)) else S) (if ch (p + 1) - 48 < R ∧ ch (p + 2) - 48 < P then upd N (18 + (ch (p + 1) - 48)) (nI (ch (p + 2) - 48)) else N) R P (B + 99)
    by_cases c : ch (p + 2) - 48 < P ∧ ch (p + 1) - 48 < R
    · rw [if_pos c, if_pos ⟨c.2, c.1⟩]
      exact SR_more (first_rel h c.1 c.2) hb
    · rw [if_neg c, if_neg (fun z => c ⟨z.2, z.1⟩)]
      exact hm
  simp only [if_neg e3]
  by_cases e4 : ch p = 112
  · simp only [if_pos e4]
    refine ⟨⟨?_, rfl⟩, trivial⟩
    show SR (if P < 10 then hPutPlayer S else S) (if P < 10 then upd N 4 (N 4 + 1) else upd N 4 (N 4 + 0)) R (if P < 10 then P + 1 else P) (B + 99)
    by_cases c : P < 10
    · rw [if_pos c, if_pos c, if_pos c]
      exact SR_more (player_rel h c) hb
    · rw [if_neg c, if_neg c, if_neg c, Int32.add_zero, ← upd_same]
      exact hm
  simp only [if_neg e4]
  by_cases e5 : ch p = 114
  · simp only [if_pos e5]
    have d1 := hd 1 (by decide) (by rw [e5]; decide)
    rw [e5] at d1
    have a1 : gdD 114 1 = 57 := rfl
    have a3 : ldD 114 1 = 49 := rfl
    refine ⟨⟨?_, rfl⟩, trivial⟩
    show SR (if R < 6 then hPutRole S R (nI (ch (p + 1) - 48)) else S) (if R < 6 then upd (upd N (12 + R) (nI (ch (p + 1) - 48))) 3 (N 3 + 1) else N) (if R < 6 then R + 1 else R) P (B + 99)
    by_cases c : R < 6
    · rw [if_pos c, if_pos c, if_pos c]
      exact SR_more (role_rel h c hz ⟨by omega, by omega⟩) hb
    · rw [if_neg c, if_neg c, if_neg c]
      exact hm
  simp only [if_neg e5]
  by_cases e6 : ch p = 121
  · simp only [if_pos e6]
    have d3 := hd 3 (by decide) (by rw [e6]; decide)
    rw [e6] at d3
    have a1 : gdD 121 3 = 57 := rfl
    refine ⟨⟨?_, rfl⟩, trivial⟩
    show SR (if ch (p + 1) - 48 < P ∧ ch (p + 2) - 48 < R then hset S 3 ((ch (p + 2) - 48) * 10 + (ch (p + 1) - 48)) (nI (ch (p + 3) - 48)) else S) (if ch (p + 1) - 48 < P ∧ ch (p + 2) - 48 < R then upd N (70 + 6 * (ch (p + 1) - 48) + (ch (p + 2) - 48)) (nI (ch (p + 3) - 48)) else N) R P (B + 99)
    by_cases c : ch (p + 1) - 48 < P ∧ ch (p + 2) - 48 < R
    · rw [if_pos c, if_pos c]
      exact SR_more (ready_rel h c.1 c.2 (by omega)) hb
    · rw [if_neg c, if_neg c]
      exact hm
  simp only [if_neg e6]
  refine ⟨⟨?_, rfl⟩, decide_eq_decide.mpr ⟨fun z => by omega, fun z => by omega⟩⟩
  show SR (if R = 0 then S else hPlay S R P) (if 0 < R then mPlay N R P else N) R P (B + 99)
  by_cases c : R = 0
  · rw [if_pos c, if_neg (by omega)]
    exact hm
  · rw [if_neg c, if_pos (by omega)]
    exact SR_more (play_rel h).1 (by omega)
theorem dc_rel {ch : Nat → Nat} {L : Nat} (hv : ∀ k, posC ch k < L → okC ch L (posC ch k)) : ∀ k, (∀ j, j < k → posC ch j < L) → XR (dcT ch (hEmp, 0, 0) k) (mcT ch (mEmp, 0, 0) k) (99 * k) ∧ mcO ch (mEmp, 0, 0) k = dcO ch (hEmp, 0, 0) k
  | 0, _ => ⟨⟨emp_rel, rfl⟩, rfl⟩
  | k + 1, hj => by
    obtain ⟨⟨i1, i2⟩, i3⟩ := dc_rel hv k (fun j h => hj j (by omega))
    have hz := (dcT_ok (ch := ch) (X := (hEmp, 0, 0)) ⟨rfl, by decide, rfl, by decide, rfl⟩ k).2.2.2.2
    have ho := hv k (hj k (by omega))
    rw [dcT, mcT, dcO, mcO, i3]
    generalize dcT ch (hEmp, 0, 0) k = X at i1 i2 hz ⊢
    generalize mcT ch (mEmp, 0, 0) k = Y at i1 i2 ⊢
    obtain ⟨S, R, P⟩ := X
    obtain ⟨N, R', P'⟩ := Y
    have e := Prod.mk.inj i2
    have e1 : R = R' := e.1
    have e2 : P = P' := e.2
    subst e1
    subst e2
    have hd := dn_rel (B := 99 * k) i1 hz ho
    refine ⟨hd.1, ?_⟩
    rw [hd.2]
theorem mo0_of {ch : Nat → Nat} {L : Nat} (hL : L ≤ 120) : mo0 ch L := by
  intro hf k hj
  have h := (dc_rel (fer_ok hL hf) k hj).1
  have h2 := ok_of h.1.1 h.1.2.1
  rw [h.2] at h2
  exact h2

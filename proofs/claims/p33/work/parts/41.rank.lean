/-! players by pay -/
abbrev ahd (S : HV) (q p : Nat) : Prop := S 5 p < S 5 q ∨ (S 5 q = S 5 p ∧ q < p)
def rkN (S : HV) (p : Nat) : Nat → Nat | 0 => 0 | q + 1 => if ahd S q p then rkN S p q + 1 else rkN S p q
theorem plc_rk (S : HV) (p : Nat) : ∀ n, plc S p n = nI (rkN S p n)
  | 0 => rfl
  | n + 1 => by
    unfold plc rkN
    rw [plc_rk S p n]
    by_cases c : ahd S n p
    · rw [if_pos c, if_pos c, nI_1]
    · rw [if_neg c, if_neg c]
theorem ahd_i {S : HV} {q p : Nat} : ahd S q p ↔ (S 5 p).toInt < (S 5 q).toInt ∨ ((S 5 q).toInt = (S 5 p).toInt ∧ q < p) := by
  unfold ahd
  rw [Int32.lt_iff_toInt_lt, ← Int32.toInt_inj]
theorem ahd_irr (S : HV) (p : Nat) : ¬ ahd S p p := by
  rw [ahd_i]
  omega
theorem ahd_tr {S : HV} {a b c : Nat} (h1 : ahd S a b) (h2 : ahd S b c) : ahd S a c := by
  rw [ahd_i] at *
  omega
theorem ahd_tot {S : HV} {a b : Nat} (h : a ≠ b) : ahd S a b ∨ ahd S b a := by
  rw [ahd_i, ahd_i]
  omega
theorem rk_lt {S : HV} {a b : Nat} (h : ahd S a b) : ∀ n, rkN S a n + (if a < n then 1 else 0) ≤ rkN S b n
  | 0 => by simp [rkN]
  | n + 1 => by
    have ih := rk_lt h n
    unfold rkN
    by_cases e : a = n
    · subst e
      rw [if_neg (ahd_irr S a), if_pos h, if_pos (Nat.lt_succ_self a)]
      rw [if_neg (Nat.lt_irrefl a)] at ih
      omega
    · have i1 : (if a < n + 1 then 1 else 0) = (if a < n then 1 else 0) := by
        by_cases z : a < n
        · rw [if_pos z, if_pos (by omega)]
        · rw [if_neg z, if_neg (by omega)]
      rw [i1]
      by_cases c : ahd S n a
      · rw [if_pos c, if_pos (ahd_tr c h)]
        omega
      · rw [if_neg c]
        by_cases c2 : ahd S n b
        · rw [if_pos c2]
          omega
        · rw [if_neg c2]
          exact ih
theorem rk_le (S : HV) (p : Nat) : ∀ n, rkN S p n + (if p < n then 1 else 0) ≤ n
  | 0 => by simp [rkN]
  | n + 1 => by
    have ih := rk_le S p n
    unfold rkN
    by_cases e : p = n
    · subst e
      rw [if_neg (ahd_irr S p), if_pos (Nat.lt_succ_self p)]
      rw [if_neg (Nat.lt_irrefl p)] at ih
      omega
    · have i1 : (if p < n + 1 then 1 else 0) = (if p < n then 1 else 0) := by
        by_cases z : p < n
        · rw [if_pos z, if_pos (by omega)]
        · rw [if_neg z, if_neg (by omega)]
      rw [i1]
      by_cases c : ahd S n p
      · rw [if_pos c]
        omega
      · rw [if_neg c]
        omega
theorem rk_sur (S : HV) : ∀ n k, k < n → ∃ p, p < n ∧ rkN S p n = k
  | 0, k, h => by omega
  | n + 1, k, h => by
    have hm : rkN S n n ≤ n := by
      have h1 := rk_le S n n
      omega
    rcases Nat.lt_trichotomy k (rkN S n n) with c | c | c
    · obtain ⟨p, hp, e⟩ := rk_sur S n k (by omega)
      refine ⟨p, by omega, ?_⟩
      unfold rkN
      rw [if_neg, e]
      intro z
      have h1 := rk_lt z n
      omega
    · refine ⟨n, by omega, ?_⟩
      unfold rkN
      rw [if_neg (ahd_irr S n), c]
    · obtain ⟨p, hp, e⟩ := rk_sur S n (k - 1) (by omega)
      refine ⟨p, by omega, ?_⟩
      have c2 : ahd S n p := by
        rcases ahd_tot (S := S) (show p ≠ n by omega) with z | z
        · have h1 := rk_lt z n
          rw [if_pos hp] at h1
          omega
        · exact z
      unfold rkN
      rw [if_pos c2, e]
      omega
/-- the player at a place -/
def rkq (S : HV) (P k : Nat) : Nat := pkF (fun q => decide (rkN S q P = k)) 0 P
theorem rkq_spec {S : HV} {P k : Nat} (h : k < P) : rkq S P k < P ∧ rkN S (rkq S P k) P = k ∧ ∀ q, q < rkq S P k → ¬ rkN S q P = k := by
  obtain ⟨p, hp, e⟩ := rk_sur S P k h
  obtain ⟨-, a2, a3, a4⟩ := pkF_spec (c := fun q => decide (rkN S q P = k)) P 0 ⟨p, Nat.zero_le _, by omega, decide_eq_true e⟩
  refine ⟨?_, of_decide_eq_true a3, fun q hq => of_decide_eq_false (a4 q (Nat.zero_le _) hq)⟩
  show pkF (fun q => decide (rkN S q P = k)) 0 P < P
  omega
theorem rk_b (S : HV) {p P : Nat} (hP : P ≤ 10) : rkN S p P < 2 ^ 31 := by
  have h := rk_le S p P
  omega
theorem rk_at {S : HV} {P k : Nat} (hP : P ≤ 10) (h : k < P) : fstF (fun p => decide (plc S p P = nI k)) 0 P = nI (rkq S P k) := by
  obtain ⟨a1, a2, a3⟩ := rkq_spec (S := S) h
  refine fst_hit P 0 _ (fun j _ hj => decide_eq_false (fun z => a3 j hj ?_)) (Nat.zero_le _) (by omega) (decide_eq_true ?_)
  · rw [plc_rk] at z
    exact (nI_eq (rk_b S hP) (by omega)).mp z
  · rw [plc_rk, a2]
theorem rk_end {S : HV} {P : Nat} (hP : P ≤ 10) : fstF (fun p => decide (plc S p P = nI P)) 0 P = -1 := by
  refine fst_none P 0 (fun j _ hj => decide_eq_false (fun z => ?_))
  rw [plc_rk] at z
  have h1 := (nI_eq (rk_b S hP) (by omega)).mp z
  have h2 := rk_le S j P
  rw [if_pos (show j < P by omega)] at h2
  omega
theorem rk_ord {S : HV} {P k : Nat} (h : k + 1 < P) : ahd S (rkq S P k) (rkq S P (k + 1)) := by
  obtain ⟨a1, a2, -⟩ := rkq_spec (S := S) (show k < P by omega)
  obtain ⟨b1, b2, -⟩ := rkq_spec (S := S) h
  have hne : rkq S P k ≠ rkq S P (k + 1) := fun z => by
    rw [z, b2] at a2
    omega
  rcases ahd_tot (S := S) hne with z | z
  · exact z
  · have h1 := rk_lt z P
    rw [if_pos b1, a2, b2] at h1
    omega
/-- the player ahead of a place, none ahead of the first one -/
def bfr (S : HV) (P : Nat) : Nat → Int32 | 0 => -1 | k + 1 => nI (rkq S P k)
theorem bfr_s {S : HV} {P k : Nat} (h : ¬ bfr S P k = -1) (hk : k < P) : bfr S P k = nI (rkq S P (k - 1)) ∧ rkq S P (k - 1) < P ∧ ahd S (rkq S P (k - 1)) (rkq S P k) := by
  cases k with
  | zero => exact absurd rfl h
  | succ k => exact ⟨rfl, (rkq_spec (show k < P by omega)).1, rk_ord hk⟩

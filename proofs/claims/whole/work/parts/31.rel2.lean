/-! playing, and days that go by: the same on both sides -/
theorem mPay_eq {S : HV} {N : Nat → Int32} {p r : Nat} (hc : RelC S N) (hz : S 16 0 = 0 ∨ S 16 0 = 1) (hr : r < 6) (hpo : S 16 0 = 1 → N (24 + r) = S 2 r) : mPay N p r = pPay S r p := by
  unfold mPay pPay
  rw [show N 6 = S 9 1 from rc9 hc (p := 1) (by decide), show N 7 = S 9 2 from rc9 hc (p := 2) (by decide), show N 8 = S 9 3 from rc9 hc (p := 3) (by decide), show N 9 = S 9 4 from rc9 hc (p := 4) (by decide), rc0 hc hr, rc1 hc hr, rc16 hc, Int32.mul_comm (S 9 2) (S 0 r)]
  rcases hz with z | z
  · rw [z, if_neg (show ¬ (0 : Int32) = 1 by decide), if_pos rfl, Int32.add_zero]
    by_cases a : S 1 r = nI p
    · rw [if_pos a, if_pos a, Int32.add_zero]
    · rw [if_neg a, if_neg a]
  · rw [hpo z, z, if_pos rfl, if_neg (show ¬ (1 : Int32) = 0 by decide)]
    by_cases a : S 1 r = nI p
    · rw [if_pos a, if_pos a, Int32.add_zero]
      by_cases b : S 2 r = nI p
      · rw [if_pos b, if_pos b, Int32.add_zero]
      · rw [if_neg b, if_neg b]
    · rw [if_neg a, if_neg a]
      by_cases b : S 2 r = nI p
      · rw [if_pos b, if_pos b, Int32.add_zero]
      · rw [if_neg b, if_neg b]
theorem rel_ps {S : HV} {N : Nat → Int32} {p r : Nat} (hc : RelC S N) (hp : p < 10) (hr : r < 6) (hv : mPay N p r = pPay S r p) : RelC (hPay S r p) (mPs N p r) := by
  have h1 : RelC (hset S 5 p (N (30 + p) + mPay N p r)) (b1 N p r) := rel_set 5 p hc (by decide) hp rfl
  have h2 : RelC (hset (hset S 5 p (N (30 + p) + mPay N p r)) 8 p (b1 N p r (60 + p) + 1)) (b2 (b1 N p r) p) := rel_set 8 p h1 (by decide) hp rfl
  have h3 : RelC (hset (hset (hset S 5 p (N (30 + p) + mPay N p r)) 8 p (b1 N p r (60 + p) + 1)) 4 (r * 10 + p) (b2 (b1 N p r) p (130 + 6 * p + r) + 1)) (b3 (b2 (b1 N p r) p) p r) := rel_set 4 (r * 10 + p) h2 (by decide) (show r * 10 + p < 60 by omega) (loc4 hp)
  have h4 : RelC (hput (hset (hset (hset S 5 p (N (30 + p) + mPay N p r)) 8 p (b1 N p r (60 + p) + 1)) 4 (r * 10 + p) (b2 (b1 N p r) p (130 + 6 * p + r) + 1)) 15 (b3 (b2 (b1 N p r) p) p r 11 + (if b3 (b2 (b1 N p r) p) p r (18 + r) = nI p then 0 else 1))) (mPs N p r) := rel_put 15 h3 (by decide) rfl rfl
  have e5 : N (30 + p) + mPay N p r = S 5 p + pPay S r p := by rw [rc5 hc hp, hv]
  have e8 : b1 N p r (60 + p) = S 8 p := by rw [b1, pk_un (by omega), rc8 hc hp]
  have e4 : b2 (b1 N p r) p (130 + 6 * p + r) = S 4 (r * 10 + p) := by rw [b2, pk_un (by omega), b1, pk_un (by omega), rc4 hc hp hr]
  have e15 : b3 (b2 (b1 N p r) p) p r 11 = S 15 0 := by rw [b3, pk_un (by omega), b2, pk_un (by omega), b1, pk_un (by omega), rc15 hc]
  have e1 : b3 (b2 (b1 N p r) p) p r (18 + r) = S 1 r := by rw [b3, pk_un (by omega), b2, pk_un (by omega), b1, pk_un (by omega), rc1 hc hr]
  rw [e5, e8, e4, e15, e1] at h4
  refine rel_ext h4 (fun k i a b c => ?_)
  unfold hPay
  rw [hput_at, hset_at, hset_at, hset_at, hset_at, hset_at, hset_at]
  by_cases f : k = 15
  · subst f
    have hi0 : i = 0 := by
      have : i < 1 := c
      omega
    subst hi0
    rw [if_pos rfl, if_neg (show ¬ (15 = 4 ∧ 0 = r * 10 + p) by omega), if_neg (show ¬ (15 = 8 ∧ 0 = p) by omega), if_neg (show ¬ (15 = 5 ∧ 0 = p) by omega)]
    by_cases g : S 1 r = nI p
    · rw [if_pos g, if_pos g, Int32.add_zero]
    · rw [if_neg g, if_neg g, hput_at, if_pos rfl]
  · rw [if_neg f]
    have e : (if S 1 r = nI p then S else hput S 15 (S 15 0 + 1)) k i = S k i := by
      split
      · rfl
      · rw [hput_at, if_neg f]
    rw [e]
theorem ps_24 {N : Nat → Int32} {p r j : Nat} (hp : p < 10) (hj : j < 6) : mPs N p r (24 + j) = N (24 + j) := by
  unfold mPs b4 b3 b2 b1
  rw [pk_un (by omega), pk_un (by omega), pk_un (by omega), pk_un (by omega)]
theorem pf_rel {S : HV} {N : Nat → Int32} {R P B : Nat} (h : SR S N R P B) (hd : ¬ hStr S R P = -1) : ∀ k, k ≤ R → RelC (hPf S (pkw S R P) k) (mPf N R P k) ∧ (∀ j, j < 6 → mPf N R P k (24 + j) = N (24 + j)) ∧ mPd N R P k = pdF S (pkw S R P) k
  | 0, _ => ⟨h.2.1, fun _ _ => rfl, rfl⟩
  | k + 1, hk => by
    obtain ⟨i1, i2, i3⟩ := pf_rel h hd k (by omega)
    have hR := h.1.1.2
    have hP := h.1.2.1.2
    have hpk := (pkM_w (k := k) hR hP (ok_of h.1 h.2.1) (fun z => hd ((str_neg h.1 h.2.1).mp z)) (by omega)).1
    have he := pkq_eq h.1 h.2.1 hd (k := k) (by omega)
    have hz : hPf S (pkw S R P) k 16 0 = 0 ∨ hPf S (pkw S R P) k 16 0 = 1 := by
      rw [hPf_keep S _ 16 (by decide) k]
      exact h.1.2.2.1
    have hv : mPay (mPf N R P k) (pkM N R P k) k = pPay (hPf S (pkw S R P) k) k (pkM N R P k) := by
      refine mPay_eq i1 hz (by omega) (fun z => ?_)
      rw [hPf_keep S _ 16 (by decide) k] at z
      rw [hPf_keep S _ 2 (by decide) k, i2 k (by omega)]
      exact h.2.2 z k (by omega)
    refine ⟨?_, fun j hj => ?_, ?_⟩
    · have := rel_ps i1 (show pkM N R P k < 10 by omega) (show k < 6 by omega) hv
      rw [mPf, hPf, ← he]
      exact this
    · rw [mPf, ps_24 (by omega) hj, i2 j hj]
    · rw [mPd, pdF, i3, hv, he]
theorem fstF_neg {c : Nat → Bool} : ∀ (n i : Nat), i + n < 2 ^ 31 → (fstF c i n = -1 ↔ ∀ r, i ≤ r → r < i + n → c r = false)
  | 0, i, _ => ⟨fun _ r a b => by omega, fun _ => rfl⟩
  | n + 1, i, hi => by
    unfold fstF
    by_cases h : c i = true
    · rw [if_pos h]
      exact ⟨fun z => absurd z (nI_m1 (by omega)), fun z => absurd (z i (Nat.le_refl _) (by omega)) (by rw [h]; decide)⟩
    · rw [if_neg h, fstF_neg n (i + 1) (by omega)]
      constructor
      · intro z r a b
        rcases Nat.eq_or_lt_of_le a with e | e
        · subst e
          simpa using h
        · exact z r (by omega) (by omega)
      · exact fun z r a b => z r (by omega) (by omega)
theorem tk_bit {w : Nat → Nat → Int32} {R P j : Nat} : ∀ k, (tkF w R P k).testBit j = true ↔ ∃ r, r < k ∧ pick w R P r (tkF w R P r) = j
  | 0 => by
    constructor
    · intro h
      simp [tkF] at h
    · rintro ⟨r, hr, -⟩
      omega
  | k + 1 => by
    rw [tkF, bit_set, Bool.or_eq_true, tk_bit k, decide_eq_true_eq]
    constructor
    · rintro (⟨r, hr, e⟩ | e)
      · exact ⟨r, by omega, e⟩
      · exact ⟨k, by omega, e⟩
    · rintro ⟨r, hr, e⟩
      by_cases c : r = k
      · subst c
        exact Or.inr e
      · exact Or.inl ⟨r, by omega, e⟩
theorem row_rel {S : HV} {N : Nat → Int32} {R P B j : Nat} (h : SR S N R P B) (hj : j < P) : (tkM N R P (mK N R P)).testBit j = true ↔ ¬ fstF (fun r => decide (csF (wFr S (frN S P)) R P r = nI j)) 0 R = -1 := by
  have hR := h.1.1.2
  have hP := h.1.2.1.2
  rw [fstF_neg R 0 (by omega)]
  by_cases hd : hStr S R P = -1
  · have h1 : tkM N R P (mK N R P) = 0 := by
      unfold tkM
      rw [str_eq h.1 h.2.1, if_pos hd]
    rw [h1]
    constructor
    · intro z
      simp at z
    · intro z
      exfalso
      apply z
      intro r _ _
      rw [csF, if_pos hd]
      exact decide_eq_false (fun y => nI_m1 (show j < 2 ^ 31 by omega) y.symm)
  · have hk : mK N R P = R := if_neg (fun z => hd ((str_neg h.1 h.2.1).mp z))
    rw [hk, tk_eq h.1 h.2.1 hd (Nat.le_refl _), tk_bit]
    have hcs : ∀ r, r < R → csF (wFr S (frN S P)) R P r = nI (pick (wFr S (frN S P)) R P r (tkF (wFr S (frN S P)) R P r)) ∧ pick (wFr S (frN S P)) R P r (tkF (wFr S (frN S P)) R P r) < P := by
      intro r hr
      obtain ⟨a1, -⟩ := tkF_spec hP hd r (by omega)
      obtain ⟨b1, -⟩ := pick_spec hr a1
      exact ⟨by rw [csF, if_neg hd], b1⟩
    constructor
    · rintro ⟨r, hr, e⟩ z
      have := z r (Nat.zero_le _) (by omega)
      rw [(hcs r hr).1, e] at this
      simp at this
    · intro z
      refine Decidable.byContradiction fun y => z (fun r _ hr => ?_)
      rw [(hcs r (by omega)).1]
      refine decide_eq_false (fun x => y ⟨r, by omega, ?_⟩)
      exact (nn_eq rfl rfl (by have := (hcs r (by omega)).2; omega) (by omega)).mp x
theorem loc_40 {k i : Nat} (hk : k < 17) (h6 : k ≠ 6) (hi : i < lnk k) : loc k i < 40 ∨ 50 ≤ loc k i := by
  rcases Nat.lt_or_ge (loc k i) 40 with c | c
  · exact Or.inl c
  · rcases Nat.lt_or_ge (loc k i) 50 with d | d
    · exfalso
      have e : loc k i = loc 6 (loc k i - 40) := by
        show _ = 40 + (loc k i - 40)
        omega
      exact h6 (loc_inj hk hi (by decide) (show loc k i - 40 < 10 by omega) e).1
    · exact Or.inr d
theorem loc_24' {k i : Nat} (hk : k < 17) (h2 : k ≠ 2) (hi : i < lnk k) : loc k i < 24 ∨ 30 ≤ loc k i := by
  rcases Nat.lt_or_ge (loc k i) 24 with c | c
  · exact Or.inl c
  · rcases Nat.lt_or_ge (loc k i) 30 with d | d
    · exfalso
      exact loc_24 hk h2 hi (show loc k i - 24 < 6 by omega) (by omega)
    · exact Or.inr d
/-- days in a row, laid anew for the first P players -/
theorem rel_row {S : HV} {N O : Nat → Int32} {P : Nat} {f : Nat → Int32} (h : RelC S N) (hP : P ≤ 10) (ho : ∀ e, (e < 40 ∨ 40 + P ≤ e) → O e = N e) (hin : ∀ j, j < P → O (40 + j) = f j) (hout : ∀ j, P ≤ j → j < 10 → f j = S 6 j) : RelC (hrow S 6 f) O := by
  intro k i a b c
  rw [hrow_at]
  by_cases e : k = 6
  · subst e
    rw [if_pos rfl]
    show O (40 + i) = f i
    have hi : i < 10 := c
    rcases Nat.lt_or_ge i P with z | z
    · exact hin i z
    · rw [ho _ (Or.inr (by omega)), hout i z hi, rc6 h hi]
  · rw [if_neg e, ho _ (by have := loc_40 a e c; omega)]
    exact h k i a b c
theorem rel_nx {S : HV} {N : Nat → Int32} (h : RelC S N) : RelC (hput (hput S 12 (S 12 0 + 1)) 16 0) (mNx N) := by
  have h1 : RelC (hput S 12 (N 0 + 1)) (upd N 0 (N 0 + 1)) := rel_put 12 h (by decide) rfl rfl
  have h2 : RelC (hput (hput S 12 (N 0 + 1)) 16 0) (upd (upd N 0 (N 0 + 1)) 10 0) := rel_put 16 h1 (by decide) rfl rfl
  rw [rc12 h] at h2
  have e : N 0 = S 12 0 := rc12 h
  refine rel_ext2 h2 (fun k i a b c => ?_)
  unfold mNx zrF
  rw [if_neg (by have := loc_24' a b c; omega), e]
theorem play_rel {S : HV} {N : Nat → Int32} {R P B : Nat} (h : SR S N R P B) : SR (hPlay S R P) (mPlay N R P) R P (B + 1) ∧ mPaid N R P = hPaid S R P := by
  have hR := h.1.1.2
  have hP := h.1.2.1.2
  obtain ⟨a1, a2, a3, a4, a5, a6, ⟨t, a7, a8⟩, a9, a10⟩ := h.1
  have hneg := str_neg h.1 h.2.1
  refine ⟨⟨?_, ?_, ?_⟩, ?_⟩
  · have hk : ∀ j, j ≠ 4 ∧ j ≠ 5 ∧ j ≠ 6 ∧ j ≠ 8 ∧ j ≠ 12 ∧ j ≠ 13 ∧ j ≠ 14 ∧ j ≠ 15 ∧ j ≠ 16 → hPlay S R P j = S j := by
      intro j hj
      unfold hPlay
      rw [hput, hrow_ne _ _ (by omega), hput, hrow_ne _ _ (by omega), hrow_ne _ _ (by omega)]
      split
      · rw [hput, hrow_ne _ _ (by omega)]
      · rw [hput, hrow_ne _ _ (by omega), hPf_keep S _ j (by omega)]
    refine ⟨⟨by rw [hk 10 (by decide)]; exact a1.1, hR⟩, ⟨by rw [hk 11 (by decide)]; exact a2.1, hP⟩, Or.inl rfl, ?_, ?_, ?_, ⟨t + 1, by omega, ?_⟩, ?_, ?_⟩
    · rw [hk 0 (by decide)]
      exact a4
    · rw [hk 3 (by decide)]
      exact a5
    · rw [hk 1 (by decide)]
      exact a6
    · show S 12 0 + 1 = nI (t + 1)
      rw [a8, nI_1]
    · rw [hk 7 (by decide)]
      intro p hp
      obtain ⟨u, u1, u2⟩ := a9 p hp
      exact ⟨u, by omega, u2⟩
    · intro p p1 p2
      show rwS S R P p = 0
      unfold rwS
      rw [if_neg (by omega)]
      exact a10 p p1 p2
  · have hro : ∀ (X : HV) (Y : Nat → Int32), RelC X Y → (∀ j, j < 10 → X 6 j = S 6 j) → RelC (hrow X 6 (rwS S R P)) (rnF Y (tkM N R P (mK N R P)) P) := by
      intro X Y hXY hX6
      refine rel_row hXY hP (fun e he => ?_) (fun j hj => ?_) (fun j j1 j2 => ?_)
      · unfold rnF
        rw [if_neg (by omega)]
      · unfold rnF rwS
        rw [if_pos (by omega), if_pos hj, show 40 + j - 40 = j by omega]
        have hb := row_rel h hj
        by_cases c : fstF (fun r => decide (csF (wFr S (frN S P)) R P r = nI j)) 0 R = -1
        · rw [if_pos c, if_neg (fun z => hb.mp z c)]
        · rw [if_neg c, if_pos (hb.mpr c), rc6 hXY (by omega), hX6 j (by omega)]
      · rw [hX6 j j2]
        unfold rwS
        rw [if_neg (by omega)]
    by_cases c : hStr S R P = -1
    · have hc : mStr N R P < 0 := hneg.mpr c
      have hK : mK N R P = 0 := if_pos hc
      have h1 := hro S N h.2.1 (fun _ _ => rfl)
      have h2 : RelC (hput (hrow S 6 (rwS S R P)) 14 (rnF N (tkM N R P (mK N R P)) P 2 + 1)) (upd (rnF N (tkM N R P (mK N R P)) P) 2 (rnF N (tkM N R P (mK N R P)) P 2 + 1)) := rel_put 14 h1 (by decide) rfl rfl
      have h3 := rel_nx h2
      have e14 : rnF N (tkM N R P (mK N R P)) P 2 = S 14 0 := by
        unfold rnF
        rw [if_neg (by omega), rc14 h.2.1]
      have hm : mPlay N R P = mNx (upd (rnF N (tkM N R P (mK N R P)) P) 2 (rnF N (tkM N R P (mK N R P)) P 2 + 1)) := by
        unfold mPlay
        rw [if_pos hc, hK]
        rfl
      rw [hm]
      refine rel_ext h3 (fun k i x y z => ?_)
      unfold hPlay
      rw [if_pos c, e14]
      simp only [hput_at, hrow_at]
      by_cases k16 : k = 16
      · rw [if_pos k16, if_pos k16]
      · rw [if_neg k16, if_neg k16]
        by_cases k12 : k = 12
        · rw [if_pos k12, if_pos k12]
          rfl
        · rw [if_neg k12, if_neg k12]
          by_cases k14 : k = 14
          · rw [if_pos k14, if_neg (by omega), if_pos k14]
          · rw [if_neg k14, if_neg k14]
    · have hc : ¬ mStr N R P < 0 := fun z => c (hneg.mp z)
      have hK : mK N R P = R := if_neg hc
      obtain ⟨p1, p2, p3⟩ := pf_rel h c R (Nat.le_refl _)
      have h1 := hro _ _ p1 (fun j _ => by rw [hPf_keep S _ 6 (by decide) R])
      have h2 : RelC (hput (hrow (hPf S (pkw S R P) R) 6 (rwS S R P)) 13 (rnF (mPf N R P R) (tkM N R P (mK N R P)) P 1 + 1)) (upd (rnF (mPf N R P R) (tkM N R P (mK N R P)) P) 1 (rnF (mPf N R P R) (tkM N R P (mK N R P)) P 1 + 1)) := rel_put 13 h1 (by decide) rfl rfl
      have h3 := rel_nx h2
      have e13 : rnF (mPf N R P R) (tkM N R P (mK N R P)) P 1 = hPf S (pkw S R P) R 13 0 := by
        unfold rnF
        rw [if_neg (by omega), rc13 p1]
      have eK : mPf N R P (mK N R P) = mPf N R P R := by rw [hK]
      have hm : mPlay N R P = mNx (upd (rnF (mPf N R P R) (tkM N R P (mK N R P)) P) 1 (rnF (mPf N R P R) (tkM N R P (mK N R P)) P 1 + 1)) := by
        unfold mPlay
        rw [if_neg hc, eK]
      rw [hm]
      refine rel_ext h3 (fun k i x y z => ?_)
      unfold hPlay
      rw [if_neg c, e13]
      simp only [hput_at, hrow_at]
      by_cases k16 : k = 16
      · rw [if_pos k16, if_pos k16]
      · rw [if_neg k16, if_neg k16]
        by_cases k12 : k = 12
        · rw [if_pos k12, if_pos k12]
          show hPf S (pkw S R P) R 12 0 + 1 = S 12 0 + 1
          rw [hPf_keep S _ 12 (by decide) R]
        · rw [if_neg k12, if_neg k12]
          by_cases k13 : k = 13
          · rw [if_pos k13, if_neg (by omega), if_pos k13]
          · rw [if_neg k13, if_neg k13]
  · intro z
    exact absurd z (by show ¬ (0 : Int32) = 1; decide)
  · unfold mPaid hPaid
    by_cases c : hStr S R P = -1
    · rw [if_pos c, if_pos (hneg.mpr c)]
    · rw [if_neg c, if_neg (fun z => c (hneg.mp z))]
      exact (pf_rel h c R (Nat.le_refl _)).2.2
/-! the other changes -/
section CH
variable {S : HV} {N : Nat → Int32} {R P B : Nat}
theorem dark_n (h : RelC S N) : ∀ n, RelC (if n = 0 then S else hput (hput S 12 (S 12 0 + nI n)) 16 0) (mNxn N n)
  | 0 => h
  | n + 1 => by
    have h1 := rel_nx (dark_n h n)
    refine rel_ext h1 (fun k i a b c => ?_)
    rw [if_neg (show ¬ n + 1 = 0 by omega)]
    by_cases e : n = 0
    · subst e
      rw [if_pos rfl]
      rfl
    · rw [if_neg e]
      simp only [hput_at]
      by_cases k16 : k = 16
      · rw [if_pos k16, if_pos k16]
      · rw [if_neg k16, if_neg k16, if_neg k16]
        by_cases k12 : k = 12
        · rw [if_pos k12, if_pos k12]
          show S 12 0 + nI n + 1 = S 12 0 + nI (n + 1)
          rw [Int32.add_assoc, nI_1]
        · rw [if_neg k12, if_neg k12, if_neg k12]
theorem dark_rel {n : Nat} (h : SR S N R P B) (hn : 1 ≤ n) : SR (hPass S n) (mDk N n P) R P (B + n) := by
  have hP := h.1.2.1.2
  obtain ⟨a1, a2, a3, a4, a5, a6, ⟨t, a7, a8⟩, a9, a10⟩ := h.1
  refine ⟨⟨a1, a2, Or.inl rfl, a4, a5, a6, ⟨t + n, by omega, ?_⟩, fun p hp => ?_, fun p _ _ => rfl⟩, ?_, fun z => absurd z (by show ¬ (0 : Int32) = 1; decide)⟩
  · show S 12 0 + nI n = nI (t + n)
    rw [a8, nI_add]
  · obtain ⟨u, u1, u2⟩ := a9 p hp
    exact ⟨u, by omega, u2⟩
  · have h1 := dark_n h.2.1 n
    rw [if_neg (by omega)] at h1
    have h2 : RelC (hrow (hput (hput S 12 (S 12 0 + nI n)) 16 0) 6 (fun _ => 0)) (mDk N n P) := by
      refine rel_row h1 hP (fun e he => ?_) (fun j hj => ?_) (fun j j1 j2 => (a10 j j1 j2).symm)
      · unfold mDk zrF
        rw [if_neg (by omega)]
      · unfold mDk zrF
        rw [if_pos (by omega)]
    refine rel_ext h2 (fun k i a b c => ?_)
    unfold hPass
    simp only [hput_at, hrow_at]
    by_cases k16 : k = 16
    · rw [if_neg (by omega), if_pos k16, if_pos k16]
    · rw [if_neg k16, if_neg k16]
      by_cases k12 : k = 12
      · rw [if_neg (by omega), if_pos k12, if_pos k12]
      · rw [if_neg k12, if_neg k12]
theorem post_rel (h : SR S N R P B) (hd : ¬ hStr S R P = -1) : SR (hPost S R P) (mPost N R P) R P B := by
  have hR := h.1.1.2
  obtain ⟨a1, a2, a3, a4, a5, a6, a7, a9, a10⟩ := h.1
  have hc : ¬ mStr N R P < 0 := fun z => hd ((str_neg h.1 h.2.1).mp z)
  refine ⟨⟨a1, a2, Or.inr rfl, a4, a5, a6, a7, a9, a10⟩, ?_, fun _ r hr => ?_⟩
  · have h1 : RelC (hput S 16 1) (upd N 10 1) := rel_put 16 h.2.1 (by decide) rfl rfl
    refine rel_ext2 (rel_ext h1 (fun k i a b c => ?_)) (fun k i a b c => ?_)
    · unfold hPost
      rw [hput_at, hput_at, hrow_at, if_neg b]
    · unfold mPost
      rw [if_neg hc]
      unfold poF
      rw [if_neg (by have := loc_24' a b c; omega)]
  · unfold mPost
    rw [if_neg hc]
    unfold poF
    rw [if_pos (by omega), show 24 + r - 24 = r by omega, csG_eq h.1 h.2.1 hr]
    show _ = (if r < R then csF (wFr S (frN S P)) R P r else S 2 r)
    rw [if_pos hr]
theorem away_rel {p d : Nat} (h : SR S N R P B) (hp : p < P) (hd : d ≤ 99) : SR (hAway S p d) (upd N (50 + p) (N 0 + nI d)) R P B := by
  have hP := h.1.2.1.2
  obtain ⟨a1, a2, a3, a4, a5, a6, ⟨t, a7, a8⟩, a9, a10⟩ := h.1
  have h1 : RelC (hset S 7 p (N 0 + nI d)) (upd N (50 + p) (N 0 + nI d)) := rel_set 7 p h.2.1 (by decide) (show p < 10 by omega) rfl
  rw [show hset S 7 p (N 0 + nI d) = hAway S p d by unfold hAway; rw [rc12 h.2.1]] at h1
  refine ⟨⟨a1, a2, a3, a4, a5, a6, ⟨t, a7, a8⟩, fun q hq => ?_, a10⟩, h1, fun z r hr => ?_⟩
  · unfold hAway
    rw [hset_at]
    by_cases e : q = p
    · rw [if_pos ⟨rfl, e⟩, a8, nI_add]
      exact ⟨t + d, by omega, rfl⟩
    · rw [if_neg (fun z => e z.2)]
      exact a9 q hq
  · rw [pk_un (by have := h.1.1.2; omega)]
    exact h.2.2 z r hr
theorem ready_rel {p r d : Nat} (h : SR S N R P B) (hp : p < P) (hr : r < R) (hd : d ≤ 9) : SR (hset S 3 (r * 10 + p) (nI d)) (upd N (70 + 6 * p + r) (nI d)) R P B := by
  have hP := h.1.2.1.2
  have hR := h.1.1.2
  obtain ⟨a1, a2, a3, a4, a5, a6, a7, a9, a10⟩ := h.1
  refine ⟨⟨a1, a2, a3, a4, fun i hi => ?_, a6, a7, a9, a10⟩, rel_set 3 (r * 10 + p) h.2.1 (by decide) (show r * 10 + p < 60 by omega) (loc3 (by omega)), fun z q hq => ?_⟩
  · rw [hset_at]
    by_cases e : i = r * 10 + p
    · rw [if_pos ⟨rfl, e⟩]
      exact ⟨d, hd, rfl⟩
    · rw [if_neg (fun z => e z.2)]
      exact a5 i hi
  · rw [pk_un (by omega)]
    exact h.2.2 z q hq
theorem first_rel {p r : Nat} (h : SR S N R P B) (hp : p < P) (hr : r < R) : SR (hset S 1 r (nI p)) (upd N (18 + r) (nI p)) R P B := by
  have hP := h.1.2.1.2
  have hR := h.1.1.2
  obtain ⟨a1, a2, a3, a4, a5, a6, a7, a9, a10⟩ := h.1
  refine ⟨⟨a1, a2, a3, a4, a5, fun i hi => ?_, a7, a9, a10⟩, rel_set 1 r h.2.1 (by decide) (show r < 6 by omega) rfl, fun z q hq => ?_⟩
  · rw [hset_at]
    by_cases e : i = r
    · rw [if_pos ⟨rfl, e⟩]
      exact Or.inr ⟨p, hp, rfl⟩
    · rw [if_neg (fun z => e z.2)]
      exact a6 i hi
  · rw [pk_un (by omega)]
    exact h.2.2 z q hq
theorem role_rel {w : Nat} (h : SR S N R P B) (hR : R < 6) (hz : S 16 0 = 0) (hw : 1 ≤ w ∧ w ≤ 9) : SR (hPutRole S R (nI w)) (upd (upd N (12 + R) (nI w)) 3 (N 3 + 1)) (R + 1) P B := by
  have hP := h.1.2.1.2
  obtain ⟨a1, a2, a3, a4, a5, a6, a7, a9, a10⟩ := h.1
  have h1 : RelC (hset S 0 R (nI w)) (upd N (12 + R) (nI w)) := rel_set 0 R h.2.1 (by decide) hR rfl
  have h2 : RelC (hput (hset S 0 R (nI w)) 10 (N 3 + 1)) (upd (upd N (12 + R) (nI w)) 3 (N 3 + 1)) := rel_put 10 h1 (by decide) rfl rfl
  rw [rc10 h.2.1] at h2
  refine ⟨⟨⟨?_, hR⟩, a2, a3, fun r hr => ?_, a5, a6, a7, a9, a10⟩, ?_, fun z => ?_⟩
  · show S 10 0 + 1 = nI (R + 1)
    rw [a1.1, nI_1]
  · show ∃ v, 1 ≤ v ∧ v ≤ 9 ∧ upd (S 0) R (nI w) r = nI v
    by_cases e : r = R
    · subst e
      rw [pk_us]
      exact ⟨w, hw.1, hw.2, rfl⟩
    · rw [pk_un e]
      exact a4 r (by omega)
  · rw [rc10 h.2.1]
    exact h2
  · exfalso
    have z2 : S 16 0 = 1 := z
    rw [hz] at z2
    exact absurd z2 (by decide)
theorem player_rel (h : SR S N R P B) (hP : P < 10) : SR (hPutPlayer S) (upd N 4 (N 4 + 1)) R (P + 1) B := by
  have hR := h.1.1.2
  obtain ⟨a1, a2, a3, a4, a5, a6, a7, a9, a10⟩ := h.1
  have h2 : RelC (hput S 11 (N 4 + 1)) (upd N 4 (N 4 + 1)) := rel_put 11 h.2.1 (by decide) rfl rfl
  rw [show N 4 = S 11 0 from rc11 h.2.1] at h2
  refine ⟨⟨a1, ⟨?_, hP⟩, a3, a4, a5, fun r hr => ?_, a7, a9, fun p p1 p2 => a10 p (by omega) p2⟩, ?_, fun z q hq => ?_⟩
  · show S 11 0 + 1 = nI (P + 1)
    rw [a2.1, nI_1]
  · rcases a6 r hr with z | ⟨q, q1, q2⟩
    · exact Or.inl z
    · exact Or.inr ⟨q, by omega, q2⟩
  · rw [show N 4 = S 11 0 from rc11 h.2.1]
    exact h2
  · rw [pk_un (by omega)]
    exact h.2.2 z q hq
theorem set_rel {k : Nat} {v : Int32} (h : SR S N R P B) (hk : k < 5) : SR (hset S 9 k v) (upd N (5 + k) v) R P B := by
  have hR := h.1.1.2
  refine ⟨h.1, rel_set 9 k h.2.1 (by decide) hk rfl, fun z q hq => ?_⟩
  rw [pk_un (by omega)]
  exact h.2.2 z q hq
theorem emp_rel : SR hEmp mEmp 0 0 0 := by
  refine ⟨⟨⟨rfl, by decide⟩, ⟨rfl, by decide⟩, Or.inl rfl, fun r hr => absurd hr (Nat.not_lt_zero _), fun _ _ => ⟨0, by decide, rfl⟩, fun _ _ => Or.inl rfl, ⟨0, by decide, rfl⟩, fun _ _ => ⟨0, by decide, rfl⟩, fun _ _ _ => rfl⟩, ?_, fun z => absurd z (by decide)⟩
  have hall : ∀ k, k < 17 → k ≠ 2 → ∀ i, i < lnk k → mEmp (loc k i) = hEmp k i := by decide +kernel
  exact fun k i a b c => hall k a b i c
end CH

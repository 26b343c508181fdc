/-! the cast: how strong it is, with and without a player -/
theorem m1_le (n : Nat) (h : n < 2 ^ 31) : (-1 : Int32) ≤ nI n := by
  rw [Int32.le_iff_toInt_le, nI_toInt h]
  have h1 : (-1 : Int32).toInt = -1 := by decide
  omega
/-- none, or a number that is not too great -/
def rgN (M : Nat) (x : Int32) : Prop := x = -1 ∨ ∃ n, n ≤ M ∧ x = nI n
theorem rgN_m1 {M : Nat} {x : Int32} (hM : M < 2 ^ 31) (h : rgN M x) : (-1 : Int32) ≤ x := by
  rcases h with h | ⟨n, h1, h2⟩
  · rw [h]
    exact Int32.le_refl _
  · rw [h2]
    exact m1_le n (by omega)
theorem mx_rg {M : Nat} {f : Nat → Int32} : ∀ k, (∀ p, p < k → rgN M (f p)) → rgN M (mxF f k)
  | 0, _ => Or.inl rfl
  | k + 1, h => by
    unfold mxF
    by_cases c : mxF f k < f k
    · rw [if_pos c]
      exact h k (by omega)
    · rw [if_neg c]
      exact mx_rg k (fun p hp => h p (by omega))
theorem mx_ge {f : Nat → Int32} : ∀ k p, p < k → f p ≤ mxF f k
  | 0, p, h => by omega
  | k + 1, p, h => by
    unfold mxF
    by_cases c : mxF f k < f k
    · rw [if_pos c]
      rcases Nat.lt_or_eq_of_le (Nat.le_of_lt_succ h) with e | e
      · have h1 := mx_ge (f := f) k p e
        rw [Int32.le_iff_toInt_le] at h1 ⊢
        rw [Int32.lt_iff_toInt_lt] at c
        omega
      · subst e
        exact Int32.le_refl _
    · rw [if_neg c]
      rcases Nat.lt_or_eq_of_le (Nat.le_of_lt_succ h) with e | e
      · exact mx_ge k p e
      · subst e
        exact Int32.not_lt.mp c
theorem mx_mono {M : Nat} (hM : M < 2 ^ 31) {f g : Nat → Int32} (k : Nat) (hg : ∀ p, p < k → rgN M (g p)) (h : ∀ p, p < k → f p ≤ g p) : mxF f k ≤ mxF g k := by
  by_cases e : mxF f k = -1
  · rw [e]
    exact rgN_m1 hM (mx_rg k hg)
  · obtain ⟨p, hp, e2⟩ := mxF_hit e
    have a := h p hp
    have b := mx_ge (f := g) k p hp
    rw [← e2]
    rw [Int32.le_iff_toInt_le] at a b ⊢
    omega
theorem sw_0 {w : Nat → Nat → Int32} {p r t : Nat} {b : Int32} (h : w p r = 0 ∨ t.testBit p = true) : swF w p r t b = -1 := if_pos h
theorem sw_1 {w : Nat → Nat → Int32} {p r t : Nat} {b : Int32} (h : ¬ (w p r = 0 ∨ t.testBit p = true)) (hb : b = -1) : swF w p r t b = -1 := (if_neg h).trans (if_pos hb)
theorem sw_2 {w : Nat → Nat → Int32} {p r t : Nat} {b : Int32} (h : ¬ (w p r = 0 ∨ t.testBit p = true)) (hb : ¬ b = -1) : swF w p r t b = w p r + b := (if_neg h).trans (if_neg hb)
abbrev wBd (w : Nat → Nat → Int32) (R P : Nat) : Prop := ∀ p r, p < P → r < R → ∃ v, v ≤ 171 ∧ w p r = nI v
theorem sw_rg {w : Nat → Nat → Int32} {R P M p r t : Nat} {b : Int32} (hw : wBd w R P) (hp : p < P) (hr : r < R) (hb : rgN M b) : rgN (M + 171) (swF w p r t b) := by
  by_cases c : w p r = 0 ∨ t.testBit p = true
  · exact Or.inl (sw_0 c)
  · rcases hb with hb | ⟨n, hn, hb⟩
    · exact Or.inl (sw_1 c hb)
    · by_cases c2 : b = -1
      · exact Or.inl (sw_1 c c2)
      · obtain ⟨v, hv, e⟩ := hw p r hp hr
        refine Or.inr ⟨v + n, by omega, ?_⟩
        rw [sw_2 c c2, e, hb, nI_add]
theorem dp_rg {w : Nat → Nat → Int32} {R P : Nat} (hw : wBd w R P) : ∀ d, d ≤ R → ∀ t, rgN (171 * d) (dpS w R P d t)
  | 0, _, _ => Or.inr ⟨0, Nat.le_refl _, rfl⟩
  | d + 1, hd, t => by
    unfold dpS
    exact mx_rg P (fun p hp => sw_rg hw hp (by omega) (dp_rg hw d (by omega) (t ||| 2 ^ p)))
theorem dp_mono {w w' : Nat → Nat → Int32} {R P : Nat} (hR : R ≤ 6) (hw : wBd w R P) (hw' : ∀ p r, p < P → r < R → w' p r = w p r ∨ w' p r = 0) : ∀ d, d ≤ R → ∀ t, dpS w' R P d t ≤ dpS w R P d t
  | 0, _, _ => Int32.le_refl _
  | d + 1, hd, t => by
    have hv : wBd w' R P := fun p r hp hr => by
      rcases hw' p r hp hr with e | e
      · rw [e]
        exact hw p r hp hr
      · exact ⟨0, by omega, e⟩
    have hg : ∀ p, p < P → rgN (171 * d + 171) (swF w p (R - (d + 1)) t (dpS w R P d (t ||| 2 ^ p))) := fun p hp => sw_rg hw hp (by omega) (dp_rg hw d (by omega) _)
    unfold dpS
    refine mx_mono (M := 171 * d + 171) (by omega) P hg (fun p hp => ?_)
    show swF w' p (R - (d + 1)) t (dpS w' R P d (t ||| 2 ^ p)) ≤ swF w p (R - (d + 1)) t (dpS w R P d (t ||| 2 ^ p))
    have g1 := rgN_m1 (by omega) (hg p hp)
    by_cases c : w' p (R - (d + 1)) = 0 ∨ t.testBit p = true
    · rw [sw_0 c]
      exact g1
    · by_cases c2 : dpS w' R P d (t ||| 2 ^ p) = -1
      · rw [sw_1 c c2]
        exact g1
      · have e : w' p (R - (d + 1)) = w p (R - (d + 1)) := (hw' p _ hp (by omega)).resolve_right (fun z => c (Or.inl z))
        have ih := dp_mono hR hw hw' d (by omega) (t ||| 2 ^ p)
        have c4 : ¬ (w p (R - (d + 1)) = 0 ∨ t.testBit p = true) := by
          rw [← e]
          exact c
        rcases dp_rg hv d (by omega) (t ||| 2 ^ p) with z' | ⟨n', hn', z'⟩
        · exact absurd z' c2
        · rcases dp_rg hw d (by omega) (t ||| 2 ^ p) with z | ⟨n, hn, z⟩
          · rw [z, z', Int32.le_iff_toInt_le, nI_toInt (by omega)] at ih
            have h1 : (-1 : Int32).toInt = -1 := by decide
            omega
          · have c3 : ¬ dpS w R P d (t ||| 2 ^ p) = -1 := by
              rw [z]
              exact nI_m1 (by omega)
            obtain ⟨v, hv, ev⟩ := hw p (R - (d + 1)) hp (by omega)
            rw [z', z] at ih
            have ih2 := (nI_leI (by omega) (by omega)).mp ih
            rw [sw_2 c c2, sw_2 c4 c3, e, z', z, ev, nI_add, nI_add, nI_leI (by omega) (by omega)]
            omega
theorem tk_has {w : Nat → Nat → Int32} {R P : Nat} : ∀ r' r, r < r' → (tkF w R P r').testBit (pick w R P r (tkF w R P r)) = true
  | 0, r, h => by omega
  | r' + 1, r, h => by
    rw [tkF, bit_set]
    rcases Nat.lt_or_eq_of_le (Nat.le_of_lt_succ h) with e | e
    · rw [tk_has r' r e]
      rfl
    · subst e
      simp
/-- without one who does not play, the cast is as strong -/
theorem dp_same {w w' : Nat → Nat → Int32} {R P b : Nat} (hP : P ≤ 10) (hR : R ≤ 6) (hw : wBd w R P) (hw' : ∀ p r, p < P → r < R → w' p r = if p = b then 0 else w p r) (h : dpS w R P R 0 ≠ -1) (hb : ¬ (tkF w R P R).testBit b = true) :
    ∀ d, d ≤ R → dpS w' R P d (tkF w R P (R - d)) = dpS w R P d (tkF w R P (R - d))
  | 0, _ => rfl
  | d + 1, hd => by
    have ih := dp_same hP hR hw hw' h hb d (by omega)
    obtain ⟨a1, -, -, -⟩ := tkF_spec hP h (R - (d + 1)) (by omega)
    have hr : R - (d + 1) < R := by omega
    obtain ⟨b1, b2, b3, b4, b5, -⟩ := pick_spec hr a1
    have nb := tk_has (w := w) (R := R) (P := P) R (R - (d + 1)) hr
    have e1 : R - (R - (d + 1)) = d + 1 := by omega
    have e2 : R - (R - (d + 1) + 1) = d := by omega
    have e3 : tkF w R P (R - d) = tkF w R P (R - (d + 1)) ||| 2 ^ pick w R P (R - (d + 1)) (tkF w R P (R - (d + 1))) := by
      rw [show R - d = R - (d + 1) + 1 by omega, tkF]
    rw [e1] at b5
    rw [e2] at b4 b5
    rw [e3] at ih
    generalize pick w R P (R - (d + 1)) (tkF w R P (R - (d + 1))) = q at *
    generalize tkF w R P (R - (d + 1)) = t at *
    have hq : q ≠ b := fun z => hb (z ▸ nb)
    have hww : w' q (R - (d + 1)) = w q (R - (d + 1)) := (hw' q _ b1 hr).trans (if_neg hq)
    have hm : ∀ p r, p < P → r < R → w' p r = w p r ∨ w' p r = 0 := fun p r hp hr => by
      rw [hw' p r hp hr]
      by_cases z : p = b
      · exact Or.inr (if_pos z)
      · exact Or.inl (if_neg z)
    refine Int32.le_antisymm (dp_mono hR hw hm (d + 1) hd t) ?_
    rw [← b5, ← ih]
    have g := mx_ge (f := fun p => swF w' p (R - (d + 1)) t (dpS w' R P d (t ||| 2 ^ p))) P q b1
    have e4 : dpS w' R P (d + 1) t = mxF (fun p => swF w' p (R - (d + 1)) t (dpS w' R P d (t ||| 2 ^ p))) P := by rw [dpS]
    rw [e4]
    refine Int32.le_iff_toInt_le.mpr (Int.le_trans (Int.le_of_eq ?_) (Int32.le_iff_toInt_le.mp g))
    show _ = (swF w' q (R - (d + 1)) t (dpS w' R P d (t ||| 2 ^ q))).toInt
    unfold swF
    rw [hww]
/-- what is so of weights and degrees -/
def CI (S : HV) (R : Nat) : Prop := (∀ r, r < R → ∃ a, 1 ≤ a ∧ a ≤ 9 ∧ S 0 r = nI a) ∧ ∀ j, ∃ d, d ≤ 9 ∧ S 3 j = nI d
theorem wOf_n {S : HV} {R p r : Nat} (h : CI S R) (hr : r < R) : ∃ v, v ≤ 171 ∧ wOf S p r = nI v := by
  obtain ⟨a, a1, a2, ea⟩ := h.1 r hr
  obtain ⟨d, d1, ed⟩ := h.2 (r * 10 + p)
  by_cases c : S 3 (r * 10 + p) = 0
  · exact ⟨0, by omega, if_pos c⟩
  · by_cases c2 : S 1 r = nI p
    · refine ⟨a * (d + 10), ?_, (if_neg c).trans ?_⟩
      · have h1 : a * (d + 10) ≤ 9 * 19 := Nat.mul_le_mul a2 (by omega)
        omega
      · rw [if_pos c2, ea, ed]
        exact nn_mul rfl (nn_add rfl rfl)
    · refine ⟨a * d, ?_, (if_neg c).trans ?_⟩
      · have h1 : a * d ≤ 9 * 19 := Nat.mul_le_mul a2 (by omega)
        omega
      · rw [if_neg c2, ea, ed]
        exact nn_mul rfl rfl
theorem wF_bd {S : HV} {R : Nat} (h : CI S R) (F P : Nat) : wBd (wFr S F) R P := fun p r _ hr => by
  show ∃ v, v ≤ 171 ∧ (if F.testBit p = true then wOf S p r else 0) = nI v
  by_cases c : F.testBit p = true
  · rw [if_pos c]
    exact wOf_n h hr
  · rw [if_neg c]
    exact ⟨0, by omega, rfl⟩
theorem wB_eq {S : HV} {P b : Nat} (p r : Nat) (hp : p < P) : wFr S (frB S b P) p r = if p = b then 0 else wFr S (frN S P) p r := by
  have e1 := frN_bit S p P
  have e2 := frB_bit S b p P
  unfold wFr
  by_cases c : p = b
  · rw [if_pos c, if_neg]
    exact fun z => (e2.mp z).2.2 c
  · rw [if_neg c]
    by_cases f : hFree S p
    · rw [if_pos (e2.mpr ⟨hp, f, c⟩), if_pos (e1.mpr ⟨hp, f⟩)]
    · rw [if_neg (fun z => f (e2.mp z).2.1), if_neg (fun z => f (e1.mp z).2)]
abbrev tkw (S : HV) (R P k : Nat) : Nat := tkF (wFr S (frN S P)) R P k
def smw (S : HV) (R P : Nat) : Nat → Int32 | 0 => 0 | k + 1 => smw S R P k + wOf S (pkw S R P k) k
section CV
variable {S : HV} {R P : Nat}
theorem cv_le (hP : P ≤ 10) (hR : R ≤ 6) (hC : CI S R) (b : Nat) : dpS (wFr S (frB S b P)) R P R 0 ≤ hStr S R P :=
  dp_mono hR (wF_bd hC _ P) (fun p r hp hr => by
    rw [wB_eq p r hp]
    by_cases z : p = b
    · exact Or.inr (if_pos z)
    · exact Or.inl (if_neg z)) R (Nat.le_refl _) 0
theorem cv_eq (hP : P ≤ 10) (hR : R ≤ 6) (hC : CI S R) (hd : ¬ hStr S R P = -1) {b : Nat} (hb : ¬ (tkw S R P R).testBit b = true) : dpS (wFr S (frB S b P)) R P R 0 = hStr S R P := by
  have h := dp_same hP hR (wF_bd hC (frN S P) P) (fun p r hp _ => wB_eq (S := S) (b := b) p r hp) hd hb R (Nat.le_refl _)
  rw [Nat.sub_self] at h
  exact h
theorem cv_eqn (hP : P ≤ 10) (hR : R ≤ 6) (hC : CI S R) (hd : hStr S R P = -1) (b : Nat) : dpS (wFr S (frB S b P)) R P R 0 = -1 := by
  have h := cv_le hP hR hC b
  rw [hd] at h
  rcases dp_rg (wF_bd hC (frB S b P) P) R (Nat.le_refl _) 0 with z | ⟨n, hn, z⟩
  · exact z
  · rw [z, Int32.le_iff_toInt_le, nI_toInt (by omega)] at h
    have h1 : (-1 : Int32).toInt = -1 := by decide
    omega
theorem cv_c (hP : P ≤ 10) (hd : ¬ hStr S R P = -1) {k : Nat} (hk : k < R) : hCs S R P k = nI (pkw S R P k) ∧ pkw S R P k < P := by
  obtain ⟨a1, -⟩ := tkF_spec hP hd k (by omega)
  obtain ⟨b1, -⟩ := pick_spec hk a1
  exact ⟨(if_neg hd).trans rfl, b1⟩
theorem cv_lt (hP : P ≤ 10) (hd : ¬ hStr S R P = -1) {k : Nat} (hk : k ≤ R) : tkw S R P k < 1024 := Nat.lt_of_lt_of_le (tkF_spec hP hd k hk).2.1 (pw_le hP)
theorem cv_bit (hP : P ≤ 10) (hd : ¬ hStr S R P = -1) {k : Nat} (hk : k < R) : ¬ (tkw S R P k).testBit (pkw S R P k) = true := by
  obtain ⟨a1, -⟩ := tkF_spec hP hd k (by omega)
  obtain ⟨-, -, b3, -⟩ := pick_spec hk a1
  exact fun z => Bool.false_ne_true (b3.symm.trans z)
theorem cv_w (hP : P ≤ 10) (hd : ¬ hStr S R P = -1) {k : Nat} (hk : k < R) : hFree S (pkw S R P k) ∧ ¬ wOf S (pkw S R P k) k = 0 ∧ wFr S (frN S P) (pkw S R P k) k = wOf S (pkw S R P k) k := by
  obtain ⟨a1, -⟩ := tkF_spec hP hd k (by omega)
  obtain ⟨b1, b2, -⟩ := pick_spec hk a1
  have e1 := frN_bit S (pkw S R P k) P
  by_cases c : (frN S P).testBit (pkw S R P k) = true
  · have e : wFr S (frN S P) (pkw S R P k) k = wOf S (pkw S R P k) k := if_pos c
    exact ⟨(e1.mp c).2, fun z => b2 (e.trans z), e⟩
  · exact absurd (if_neg c) b2
theorem cv_deg (hC : CI S R) (hP : P ≤ 10) (hd : ¬ hStr S R P = -1) {k : Nat} (hk : k < R) : 0 < S 3 (k * 10 + pkw S R P k) := by
  obtain ⟨-, h, -⟩ := cv_w hP hd hk
  obtain ⟨d, d1, ed⟩ := hC.2 (k * 10 + pkw S R P k)
  rw [ed]
  refine (nI_ltI (a := 0) (by decide) (by omega)).mpr ?_
  rcases Nat.eq_zero_or_pos d with z | z
  · exact absurd (if_pos (by rw [ed, z]; rfl)) h
  · exact z
theorem fst_hit {c : Nat → Bool} : ∀ n i k, (∀ j, i ≤ j → j < k → c j = false) → i ≤ k → k < i + n → c k = true → fstF c i n = nI k
  | 0, i, k, _, h1, h2, _ => by omega
  | n + 1, i, k, h, h1, h2, hk => by
    unfold fstF
    by_cases e : i = k
    · subst e
      rw [if_pos hk]
    · rw [h i (Nat.le_refl _) (by omega), if_neg Bool.false_ne_true]
      exact fst_hit n (i + 1) k (fun j a b => h j (by omega) b) (by omega) (by omega) hk
theorem fst_none {c : Nat → Bool} : ∀ n i, (∀ j, i ≤ j → j < i + n → c j = false) → fstF c i n = -1
  | 0, i, _ => rfl
  | n + 1, i, h => by
    unfold fstF
    rw [h i (Nat.le_refl _) (by omega), if_neg Bool.false_ne_true]
    exact fst_none n (i + 1) (fun j a b => h j (by omega) (by omega))
theorem cv_inj (hP : P ≤ 10) (hd : ¬ hStr S R P = -1) {j k : Nat} (hj : j < k) (hk : k < R) : pkw S R P j ≠ pkw S R P k := by
  intro e
  have h1 := tk_has (w := wFr S (frN S P)) (R := R) (P := P) k j hj
  have h2 := cv_bit hP hd hk
  exact h2 (by rw [← e]; exact h1)
theorem cv_ne (hP : P ≤ 10) (hd : ¬ hStr S R P = -1) {j b : Nat} (hj : j < R) (hb : b < P) (h : ¬ pkw S R P j = b) : decide (hCs S R P j = nI b) = false := by
  obtain ⟨h1, h2⟩ := cv_c hP hd hj
  refine decide_eq_false (fun z => h ?_)
  rw [h1] at z
  exact (nI_eq (by omega) (by omega)).mp z
theorem cv_rl (hP : P ≤ 10) (hd : ¬ hStr S R P = -1) {k : Nat} (hk : k < R) : fstF (fun r => decide (hCs S R P r = nI (pkw S R P k))) 0 R = nI k := by
  obtain ⟨h1, h2⟩ := cv_c hP hd hk
  refine fst_hit R 0 k (fun j _ hj => cv_ne hP hd (by omega) h2 (cv_inj hP hd hj hk)) (Nat.zero_le _) (by omega) (decide_eq_true h1)
theorem cnt_n (S : HV) (r : Nat) : ∀ k, ∃ n, n ≤ k ∧ cntC S r k = nI n ∧ ∀ q, q < k → hFree S q → 0 < S 3 (r * 10 + q) → 1 ≤ n
  | 0 => ⟨0, Nat.le_refl _, rfl, fun q h => absurd h (Nat.not_lt_zero _)⟩
  | k + 1 => by
    obtain ⟨n, h1, h2, h3⟩ := cnt_n S r k
    unfold cntC
    by_cases c : hFree S k ∧ 0 < S 3 (r * 10 + k)
    · rw [if_pos c, h2]
      exact ⟨n + 1, by omega, nI_1 _, fun _ _ _ _ => by omega⟩
    · rw [if_neg c]
      refine ⟨n, by omega, h2, fun q hq a b => ?_⟩
      rcases Nat.lt_or_eq_of_le (Nat.le_of_lt_succ hq) with e | e
      · exact h3 q e a b
      · subst e
        exact absurd ⟨a, b⟩ c
theorem cv_cnt (hC : CI S R) (hP : P ≤ 10) (hd : ¬ hStr S R P = -1) {k : Nat} (hk : k < R) : 0 < cntC S k P := by
  obtain ⟨n, h1, h2, h3⟩ := cnt_n S k P
  obtain ⟨-, hb⟩ := cv_c hP hd hk
  have h4 := h3 _ hb (cv_w hP hd hk).1 (cv_deg hC hP hd hk)
  rw [h2]
  exact (nI_ltI (a := 0) (by decide) (by omega)).mpr (by omega)
theorem cv_sm (hP : P ≤ 10) (hd : ¬ hStr S R P = -1) : ∀ k, k ≤ R → smw S R P k + dpS (wFr S (frN S P)) R P (R - k) (tkw S R P k) = hStr S R P
  | 0, _ => by
    show 0 + dpS (wFr S (frN S P)) R P (R - 0) 0 = _
    rw [Int32.zero_add, Nat.sub_zero]
  | k + 1, hk => by
    have ih := cv_sm hP hd k (by omega)
    obtain ⟨a1, -⟩ := tkF_spec hP hd k (by omega)
    obtain ⟨b1, b2, b3, b4, b5, -⟩ := pick_spec (show k < R by omega) a1
    obtain ⟨-, -, e⟩ := cv_w hP hd (show k < R by omega)
    rw [← ih, smw, Int32.add_assoc]
    congr 1
    rw [← b5, sw_2 (fun z => z.elim b2 (fun z => by rw [b3] at z; exact Bool.false_ne_true z)) b4]
    rw [← e]
    rfl
theorem cv_sum (hP : P ≤ 10) (hd : ¬ hStr S R P = -1) : smw S R P R = hStr S R P := by
  have h := cv_sm hP hd R (Nat.le_refl _)
  rw [Nat.sub_self] at h
  rw [← h]
  exact (Int32.add_zero _).symm
theorem cv_in (hP : P ≤ 10) (hR : R ≤ 6) (hd : ¬ hStr S R P = -1) {b : Nat} (hb : b < P) (h : (tkw S R P R).testBit b = true) : ¬ fstF (fun r => decide (hCs S R P r = nI b)) 0 R < 0 := by
  obtain ⟨-, -, -, h4⟩ := tkF_spec hP hd R (Nat.le_refl _)
  obtain ⟨r, hr, e, -, -⟩ := h4 b h
  have e2 : pkw S R P r = b := e.symm
  have h5 := cv_rl hP hd hr
  rw [e2] at h5
  rw [h5]
  exact nI_pos (by omega)
theorem cv_out (hP : P ≤ 10) (hd : ¬ hStr S R P = -1) {b : Nat} (hb : b < P) (h : ¬ (tkw S R P R).testBit b = true) : fstF (fun r => decide (hCs S R P r = nI b)) 0 R = -1 := by
  refine fst_none R 0 (fun j _ hj => cv_ne hP hd (by omega) hb (fun e => h ?_))
  have h1 := tk_has (w := wFr S (frN S P)) (R := R) (P := P) R j (by omega)
  rw [← e]
  exact h1
theorem cv_nc (hd : hStr S R P = -1) (k : Nat) : hCs S R P k = -1 := if_pos hd
theorem cv_none (hd : hStr S R P = -1) {b : Nat} (hb : b < 2 ^ 31) : fstF (fun r => decide (hCs S R P r = nI b)) 0 R = -1 := by
  refine fst_none R 0 (fun j _ hj => decide_eq_false (fun z => ?_))
  rw [cv_nc hd j] at z
  exact nI_m1 hb z.symm
theorem cv_z (h : R = 0) : hStr S R P = 0 := by
  subst h
  rfl
end CV
theorem bit_and0 {t q : Nat} (h : ¬ t.testBit q = true) : (t / 2 ^ q) &&& 1 = 0 := by
  have h1 := bit_div t q
  have h2 : (t / 2 ^ q) &&& 1 = (t / 2 ^ q) % 2 := Nat.and_one_is_mod _
  have h3 : ¬ (t / 2 ^ q) &&& 1 = 1 := fun z => h (h1.mp z)
  omega

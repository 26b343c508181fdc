/-! casts in mathematics: sets of players are numbers below 1024 -/
theorem nx_or (a b : Nat) : nI a ||| nI b = nI (a ||| b) := by
  apply Int32.toBitVec_inj.1
  show BitVec.ofNat 32 a ||| BitVec.ofNat 32 b = BitVec.ofNat 32 (a ||| b)
  apply BitVec.eq_of_getLsbD_eq
  intro i hi
  simp [hi]
theorem nx_and (a b : Nat) : nI a &&& nI b = nI (a &&& b) := by
  apply Int32.toBitVec_inj.1
  show BitVec.ofNat 32 a &&& BitVec.ofNat 32 b = BitVec.ofNat 32 (a &&& b)
  apply BitVec.eq_of_getLsbD_eq
  intro i hi
  simp [hi]
theorem nx_sl : ∀ n, n < 32 → ((nI n &&& 31).toBitVec.smod 32).toNat = n := by decide +kernel
theorem nn_and {x y : Int32} {a b : Nat} (hx : x = nI a) (hy : y = nI b) : x &&& y = nI (a &&& b) := by rw [hx, hy, nx_and]
theorem nn_or {x y : Int32} {a b : Nat} (hx : x = nI a) (hy : y = nI b) : x ||| y = nI (a ||| b) := by rw [hx, hy, nx_or]
theorem nn_shl1 {x y : Int32} {p : Nat} (hx : x = nI 1) (hy : y = nI p) (hp : p < 31) : x <<< (y &&& 31) = nI (2 ^ p) := by
  subst hx
  subst hy
  rw [pk_shlN (nI p &&& 31) p (nx_sl p (by omega)) (by rw [Nat.one_mul]; exact Nat.pow_lt_pow_right (by decide) (by omega)), Nat.one_mul]
theorem nn_shr {x y : Int32} {a p : Nat} (hx : x = nI a) (hy : y = nI p) (ha : a < 2 ^ 31) (hp : p < 32) : x >>> (y &&& 31) = nI (a / 2 ^ p) := by
  subst hx
  subst hy
  exact pk_shrN ha (nI p &&& 31) p (nx_sl p hp)
theorem bit_div (a p : Nat) : (a / 2 ^ p) &&& 1 = 1 ↔ a.testBit p = true := by
  rw [Nat.and_one_is_mod, Nat.testBit_eq_decide_div_mod_eq, decide_eq_true_eq]
/-- how many players are in a set -/
def pcF (t : Nat) : Nat → Nat | 0 => 0 | k + 1 => pcF t k + (if t.testBit k then 1 else 0)
def pop (t : Nat) : Nat := pcF t 10
theorem pcF_le (t : Nat) : ∀ k, pcF t k ≤ k
  | 0 => Nat.le_refl 0
  | k + 1 => by
    have h := pcF_le t k
    unfold pcF
    split <;> omega
theorem pop_le (t : Nat) : pop t ≤ 10 := pcF_le t 10
theorem pop_0 : pop 0 = 0 := by decide
theorem bit_set (t p q : Nat) : (t ||| 2 ^ p).testBit q = (t.testBit q || decide (p = q)) := by
  rw [Nat.testBit_or, Nat.testBit_two_pow]
theorem pcF_set (t p : Nat) (h : t.testBit p = false) : ∀ k, pcF (t ||| 2 ^ p) k = pcF t k + (if p < k then 1 else 0)
  | 0 => by simp [pcF]
  | k + 1 => by
    have ih := pcF_set t p h k
    unfold pcF
    rw [ih, bit_set]
    by_cases e : p = k
    · subst e
      simp [h]
    · have e1 : (p < k + 1) ↔ (p < k) := by omega
      simp only [e, decide_false, Bool.or_false, e1]
      omega
theorem pop_set {t p : Nat} (hp : p < 10) (h : t.testBit p = false) : pop (t ||| 2 ^ p) = pop t + 1 := by
  unfold pop
  rw [pcF_set t p h, if_pos hp]
theorem pop_lt1024 : ∀ t, t < 1024 → 0 < t → pop (t &&& (t - 1)) + 1 = pop t ∧ t &&& (t - 1) < t := by decide +kernel
theorem set_lt {t p P : Nat} (ht : t < 2 ^ P) (hp : p < P) : t ||| 2 ^ p < 2 ^ P := Nat.or_lt_two_pow ht (Nat.pow_lt_pow_right (by decide) hp)
theorem set_gt {t p : Nat} (h : t.testBit p = false) : t < t ||| 2 ^ p := by
  have h1 : t ≤ t ||| 2 ^ p := Nat.left_le_or
  rcases Nat.lt_or_eq_of_le h1 with h2 | h2
  · exact h2
  · exfalso
    have h3 := bit_set t p p
    rw [← h2, h] at h3
    simp at h3
theorem pw_le {P : Nat} (h : P ≤ 10) : 2 ^ P ≤ 1024 := Nat.pow_le_pow_right (by decide) h
/-- the greatest of the first k, and -1 -/
def mxF (f : Nat → Int32) : Nat → Int32 | 0 => -1 | k + 1 => if mxF f k < f k then f k else mxF f k
/-- what it comes to if p plays the role r, when t play the roles ahead, and b is behind -/
abbrev swF (w : Nat → Nat → Int32) (p r t : Nat) (b : Int32) : Int32 := if w p r = 0 ∨ t.testBit p = true then -1 else if b = -1 then -1 else w p r + b
/-- the greatest sum of the last d roles of R, when t play the roles ahead -/
def dpS (w : Nat → Nat → Int32) (R P : Nat) : Nat → Nat → Int32
  | 0, _ => 0
  | d + 1, t => mxF (fun p => swF w p (R - (d + 1)) t (dpS w R P d (t ||| 2 ^ p))) P
theorem mxF_cong {f g : Nat → Int32} : ∀ {k : Nat}, (∀ p, p < k → f p = g p) → mxF f k = mxF g k
  | 0, _ => rfl
  | k + 1, h => by
    unfold mxF
    rw [mxF_cong (fun p hp => h p (by omega)), h k (by omega)]
theorem mxF_hit {f : Nat → Int32} : ∀ {k : Nat}, mxF f k ≠ -1 → ∃ p, p < k ∧ f p = mxF f k
  | 0, h => absurd rfl h
  | k + 1, h => by
    unfold mxF at h ⊢
    by_cases c : mxF f k < f k
    · rw [if_pos c]
      exact ⟨k, by omega, rfl⟩
    · rw [if_neg c] at h ⊢
      obtain ⟨p, hp, e⟩ := mxF_hit h
      exact ⟨p, by omega, e⟩
/-- the least player for the role r, when t play the roles ahead -/
def pkF (c : Nat → Bool) : Nat → Nat → Nat | i, 0 => i | i, n + 1 => if c i then i else pkF c (i + 1) n
def pick (w : Nat → Nat → Int32) (R P r t : Nat) : Nat := pkF (fun p => decide (swF w p r t (dpS w R P (R - (r + 1)) (t ||| 2 ^ p)) = dpS w R P (R - r) t)) 0 P
/-- who is taken by the first r roles -/
def tkF (w : Nat → Nat → Int32) (R P : Nat) : Nat → Nat | 0 => 0 | r + 1 => tkF w R P r ||| 2 ^ pick w R P r (tkF w R P r)
/-- who plays the role r -/
def csF (w : Nat → Nat → Int32) (R P r : Nat) : Int32 := if dpS w R P R 0 = -1 then -1 else nI (pick w R P r (tkF w R P r))
theorem pkF_hit {c : Nat → Bool} {i N : Nat} (h : i < N) (hc : c i = true) : pkF c i (N - i) = i := by
  obtain ⟨n, hn⟩ : ∃ n, N - i = n + 1 := ⟨N - i - 1, by omega⟩
  rw [hn, pkF, if_pos hc]
theorem pkF_step {c : Nat → Bool} {i N : Nat} (h : i < N) (hc : ¬ c i = true) : pkF c i (N - i) = pkF c (i + 1) (N - (i + 1)) := by
  obtain ⟨n, hn⟩ : ∃ n, N - i = n + 1 := ⟨N - i - 1, by omega⟩
  rw [hn, pkF, if_neg hc, show N - (i + 1) = n by omega]
theorem pkF_spec {c : Nat → Bool} : ∀ (n i : Nat), (∃ p, i ≤ p ∧ p < i + n ∧ c p = true) → i ≤ pkF c i n ∧ pkF c i n < i + n ∧ c (pkF c i n) = true ∧ ∀ q, i ≤ q → q < pkF c i n → c q = false
  | 0, i, ⟨p, h1, h2, _⟩ => by omega
  | n + 1, i, ⟨p, h1, h2, h3⟩ => by
    unfold pkF
    by_cases h : c i = true
    · rw [if_pos h]
      exact ⟨Nat.le_refl _, by omega, h, fun q a b => by omega⟩
    · rw [if_neg h]
      have hp : p ≠ i := fun e => h (e ▸ h3)
      obtain ⟨a1, a2, a3, a4⟩ := pkF_spec n (i + 1) ⟨p, by omega, by omega, h3⟩
      refine ⟨by omega, by omega, a3, fun q b1 b2 => ?_⟩
      rcases Nat.eq_or_lt_of_le b1 with e | e
      · subst e
        simpa using h
      · exact a4 q e b2
/-- a role that can be cast is cast by somebody -/
theorem pick_spec {w : Nat → Nat → Int32} {R P r t : Nat} (hr : r < R) (h : dpS w R P (R - r) t ≠ -1) :
    pick w R P r t < P ∧ w (pick w R P r t) r ≠ 0 ∧ t.testBit (pick w R P r t) = false ∧ dpS w R P (R - (r + 1)) (t ||| 2 ^ pick w R P r t) ≠ -1 ∧
    swF w (pick w R P r t) r t (dpS w R P (R - (r + 1)) (t ||| 2 ^ pick w R P r t)) = dpS w R P (R - r) t ∧
    ∀ q, q < pick w R P r t → swF w q r t (dpS w R P (R - (r + 1)) (t ||| 2 ^ q)) ≠ dpS w R P (R - r) t := by
  obtain ⟨d, hd⟩ : ∃ d, R - r = d + 1 := ⟨R - r - 1, by omega⟩
  have hd1 : R - (r + 1) = d := by omega
  have hd2 : R - (d + 1) = r := by omega
  have e1 : dpS w R P (R - r) t = mxF (fun p => swF w p r t (dpS w R P (R - (r + 1)) (t ||| 2 ^ p))) P := by
    rw [hd, hd1, dpS, hd2]
  have h2 := h
  rw [e1] at h2
  obtain ⟨p, hp, e⟩ := mxF_hit h2
  rw [← e1] at e
  have key := pkF_spec (c := fun p => decide (swF w p r t (dpS w R P (R - (r + 1)) (t ||| 2 ^ p)) = dpS w R P (R - r) t)) P 0 ⟨p, Nat.zero_le _, by omega, decide_eq_true e⟩
  obtain ⟨-, a2, a3, a4⟩ := key
  have hpk : pkF (fun p => decide (swF w p r t (dpS w R P (R - (r + 1)) (t ||| 2 ^ p)) = dpS w R P (R - r) t)) 0 P = pick w R P r t := rfl
  rw [hpk] at a2 a3 a4
  have a3 := of_decide_eq_true a3
  have b1 : ¬ (w (pick w R P r t) r = 0 ∨ t.testBit (pick w R P r t) = true) := fun z => h (by rw [← a3, swF, if_pos z])
  have b2 : dpS w R P (R - (r + 1)) (t ||| 2 ^ pick w R P r t) ≠ -1 := fun z => h (by rw [← a3, swF, if_neg b1, if_pos z])
  refine ⟨by omega, fun z => b1 (Or.inl z), ?_, b2, a3, fun q hq z => ?_⟩
  · cases hb : t.testBit (pick w R P r t)
    · rfl
    · exact absurd (Or.inr hb) b1
  · have := a4 q (Nat.zero_le _) hq
    simp [z] at this
/-- what is so of those who are taken, when there is a cast -/
theorem tkF_spec {w : Nat → Nat → Int32} {R P : Nat} (hP : P ≤ 10) (h : dpS w R P R 0 ≠ -1) : ∀ r, r ≤ R → dpS w R P (R - r) (tkF w R P r) ≠ -1 ∧ tkF w R P r < 2 ^ P ∧ pop (tkF w R P r) = r ∧ ∀ q, (tkF w R P r).testBit q = true → ∃ r', r' < r ∧ q = pick w R P r' (tkF w R P r') ∧ q < P ∧ w q r' ≠ 0
  | 0, _ => ⟨h, Nat.two_pow_pos _, pop_0, fun q hq => by simp [tkF] at hq⟩
  | r + 1, hr => by
    obtain ⟨i1, i2, i3, i4⟩ := tkF_spec hP h r (by omega)
    obtain ⟨j1, j2, j3, j4, -, -⟩ := pick_spec (by omega) i1
    refine ⟨j4, set_lt i2 j1, ?_, fun q hq => ?_⟩
    · rw [tkF, pop_set (by omega) j3, i3]
    · rw [tkF, bit_set] at hq
      rcases Bool.or_eq_true _ _ ▸ hq with e | e
      · obtain ⟨r', b1, b2⟩ := i4 q e
        exact ⟨r', by omega, b2⟩
      · have e := of_decide_eq_true e
        exact ⟨r, by omega, e.symm, e ▸ j1, e ▸ j2⟩
/-- it depends on the worths of the players and roles alone -/
theorem dpS_cong {w v : Nat → Nat → Int32} {R P : Nat} (h : ∀ p r, p < P → r < R → w p r = v p r) : ∀ (d : Nat), d ≤ R → ∀ t, dpS w R P d t = dpS v R P d t
  | 0, _, _ => rfl
  | d + 1, hd, t => by
    unfold dpS
    refine mxF_cong fun p hp => ?_
    rw [swF, swF, dpS_cong h d (by omega), h p _ hp (by omega)]
theorem pick_cong {w v : Nat → Nat → Int32} {R P r : Nat} (h : ∀ p r, p < P → r < R → w p r = v p r) (hr : r < R) (t : Nat) : pick w R P r t = pick v R P r t := by
  have hc : ∀ (n i : Nat) (c c' : Nat → Bool), (∀ p, i ≤ p → p < i + n → c p = c' p) → pkF c i n = pkF c' i n := by
    intro n
    induction n with
    | zero => intro i c c' _; rfl
    | succ n ih =>
      intro i c c' hcc
      unfold pkF
      rw [hcc i (Nat.le_refl _) (by omega), ih (i + 1) c c' (fun p a b => hcc p (by omega) (by omega))]
  unfold pick
  refine hc P 0 _ _ (fun p _ hp => ?_)
  rw [swF, swF, dpS_cong h (R - (r + 1)) (by omega), dpS_cong h (R - r) (by omega), h p r (by omega) hr]
theorem tkF_cong {w v : Nat → Nat → Int32} {R P : Nat} (h : ∀ p r, p < P → r < R → w p r = v p r) : ∀ r, r ≤ R → tkF w R P r = tkF v R P r
  | 0, _ => rfl
  | r + 1, hr => by
    unfold tkF
    rw [tkF_cong h r (by omega), pick_cong h (by omega)]
theorem csF_cong {w v : Nat → Nat → Int32} {R P r : Nat} (h : ∀ p r, p < P → r < R → w p r = v p r) (hr : r < R) : csF w R P r = csF v R P r := by
  unfold csF
  rw [dpS_cong h R (Nat.le_refl _), tkF_cong h r (by omega), pick_cong h hr]
/-- a table of the sums behind the sets of free players -/
def tabOK (w : Nat → Nat → Int32) (R P : Nat) (F : Nat) (B : Nat → Int32) (lo : Nat) : Prop := ∀ t, lo ≤ t → t < 2 ^ P → (∀ q, t.testBit q = true → F.testBit q = true) → pop t ≤ R → B t = dpS w R P (R - pop t) t
/-- a set's sum out of those of the larger sets -/
theorem tab_val {w : Nat → Nat → Int32} {R P F t : Nat} {B : Nat → Int32} (hP : P ≤ 10) (hF : ∀ p r, p < P → r < R → w p r ≠ 0 → F.testBit p = true) (h : tabOK w R P F B (t + 1)) (ht : t < 2 ^ P) (hs : ∀ q, t.testBit q = true → F.testBit q = true) (hr : pop t < R) :
    mxF (fun p => swF w p (pop t) t (B (t ||| 2 ^ p))) P = dpS w R P (R - pop t) t := by
  obtain ⟨d, hd⟩ : ∃ d, R - pop t = d + 1 := ⟨R - pop t - 1, by omega⟩
  rw [hd, dpS, show R - (d + 1) = pop t by omega]
  refine mxF_cong fun p hp => ?_
  unfold swF
  by_cases c : w p (pop t) = 0 ∨ t.testBit p = true
  · rw [if_pos c, if_pos c]
  · rw [if_neg c, if_neg c]
    have c1 : w p (pop t) ≠ 0 := fun z => c (Or.inl z)
    have c2 : t.testBit p = false := by
      cases hb : t.testBit p
      · rfl
      · exact absurd (Or.inr hb) c
    have e := h (t ||| 2 ^ p) (set_gt c2) (set_lt ht hp) (fun q hq => by
      rw [bit_set] at hq
      rcases Bool.or_eq_true _ _ ▸ hq with e | e
      · exact hs q e
      · rw [← of_decide_eq_true e]
        exact hF p _ hp hr c1) (by rw [pop_set (by omega) c2]; omega)
    rw [pop_set (by omega) c2, show R - (pop t + 1) = d by omega] at e
    rw [e]
theorem tab_put {w : Nat → Nat → Int32} {R P F t : Nat} {B : Nat → Int32} {v : Int32} (h : tabOK w R P F B (t + 1)) (hv : v = dpS w R P (R - pop t) t) : tabOK w R P F (upd B t v) t := by
  intro t' h1 h2 h3 h4
  by_cases e : t' = t
  · subst e
    simp [upd, hv]
  · simp only [upd, if_neg e]
    exact h t' (by omega) h2 h3 h4
theorem tab_skip {w : Nat → Nat → Int32} {R P F t : Nat} {B : Nat → Int32} (h : tabOK w R P F B (t + 1)) (hn : ¬ ((∀ q, t.testBit q = true → F.testBit q = true) ∧ pop t ≤ R)) : tabOK w R P F B t := by
  intro t' h1 h2 h3 h4
  rcases Nat.eq_or_lt_of_le h1 with e | e
  · subst e
    exact absurd ⟨h3, h4⟩ hn
  · exact h t' e h2 h3 h4

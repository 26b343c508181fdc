/-! the house and the model's ints: where each number lies -/
def loc : Nat → Nat → Nat
  | 0, i => 12 + i | 1, i => 18 + i | 2, i => 24 + i | 3, i => 70 + 6 * (i % 10) + i / 10 | 4, i => 130 + 6 * (i % 10) + i / 10 | 5, i => 30 + i | 6, i => 40 + i | 7, i => 50 + i | 8, i => 60 + i | 9, i => 5 + i | 10, _ => 3 | 11, _ => 4 | 12, _ => 0 | 13, _ => 1 | 14, _ => 2 | 15, _ => 11 | _, _ => 10
def lnk : Nat → Nat
  | 0 => 6 | 1 => 6 | 2 => 6 | 3 => 60 | 4 => 60 | 5 => 10 | 6 => 10 | 7 => 10 | 8 => 10 | 9 => 5 | _ => 1
def invL (e : Nat) : Nat × Nat :=
  if e < 5 then (if e = 0 then (12, 0) else if e = 1 then (13, 0) else if e = 2 then (14, 0) else if e = 3 then (10, 0) else (11, 0)) else
  if e < 10 then (9, e - 5) else if e = 10 then (16, 0) else if e = 11 then (15, 0) else if e < 18 then (0, e - 12) else if e < 24 then (1, e - 18) else if e < 30 then (2, e - 24) else
  if e < 40 then (5, e - 30) else if e < 50 then (6, e - 40) else if e < 60 then (7, e - 50) else if e < 70 then (8, e - 60) else
  if e < 130 then (3, (e - 70) % 6 * 10 + (e - 70) / 6) else (4, (e - 130) % 6 * 10 + (e - 130) / 6)
theorem loc_inv : ∀ k, k < 17 → ∀ i, i < lnk k → invL (loc k i) = (k, i) ∧ loc k i < 190 := by decide +kernel
theorem loc_inj {k i k' i' : Nat} (hk : k < 17) (hi : i < lnk k) (hk' : k' < 17) (hi' : i' < lnk k') (e : loc k i = loc k' i') : k = k' ∧ i = i' := by
  have h1 := (loc_inv k hk i hi).1
  have h2 := (loc_inv k' hk' i' hi').1
  rw [e, h2] at h1
  have h3 := Prod.mk.inj h1
  exact ⟨h3.1.symm, h3.2.symm⟩
theorem hset_at (S : HV) (k i : Nat) (v : Int32) (k' i' : Nat) : hset S k i v k' i' = if k' = k ∧ i' = i then v else S k' i' := by
  by_cases e : k' = k
  · subst e
    show hrow S k' (upd (S k') i v) k' i' = _
    rw [hrow_self]
    by_cases c : i' = i
    · subst c
      rw [pk_us, if_pos ⟨rfl, rfl⟩]
    · rw [pk_un c, if_neg (fun z => c z.2)]
  · show hrow S k (upd (S k) i v) k' i' = _
    rw [hrow_ne _ _ e, if_neg (fun z => e z.1)]
theorem hput_at (S : HV) (k : Nat) (v : Int32) (k' i' : Nat) : hput S k v k' i' = if k' = k then v else S k' i' := by
  by_cases e : k' = k
  · subst e
    show hrow S k' (fun _ => v) k' i' = _
    rw [hrow_self, if_pos rfl]
  · show hrow S k (fun _ => v) k' i' = _
    rw [hrow_ne _ _ e, if_neg e]
theorem hrow_at (S : HV) (k : Nat) (f : Nat → Int32) (k' i' : Nat) : hrow S k f k' i' = if k' = k then f i' else S k' i' := by
  by_cases e : k' = k
  · subst e
    rw [hrow_self, if_pos rfl]
  · rw [hrow_ne _ _ e, if_neg e]
/-- the numbers agree, but for who is posted -/
def RelC (S : HV) (N : Nat → Int32) : Prop := ∀ k i, k < 17 → k ≠ 2 → i < lnk k → N (loc k i) = S k i
theorem rel_ext {S T : HV} {N : Nat → Int32} (h : RelC S N) (e : ∀ k i, k < 17 → k ≠ 2 → i < lnk k → S k i = T k i) : RelC T N := fun k i a b c => (h k i a b c).trans (e k i a b c)
theorem rel_ext2 {S : HV} {N O : Nat → Int32} (h : RelC S N) (e : ∀ k i, k < 17 → k ≠ 2 → i < lnk k → O (loc k i) = N (loc k i)) : RelC S O := fun k i a b c => (e k i a b c).trans (h k i a b c)
theorem rel_set {S : HV} {N : Nat → Int32} {v : Int32} (k i : Nat) {e : Nat} (h : RelC S N) (hk : k < 17) (hi : i < lnk k) (he : e = loc k i) : RelC (hset S k i v) (upd N e v) := by
  intro k' i' a b c
  subst he
  rw [hset_at]
  by_cases z : k' = k ∧ i' = i
  · obtain ⟨rfl, rfl⟩ := z
    rw [pk_us, if_pos ⟨rfl, rfl⟩]
  · rw [if_neg z, pk_un (fun y => z (loc_inj a c hk hi y))]
    exact h k' i' a b c
theorem rel_put {S : HV} {N : Nat → Int32} {v : Int32} (k : Nat) {e : Nat} (h : RelC S N) (hk : k < 17) (h1 : lnk k = 1) (he : e = loc k 0) : RelC (hput S k v) (upd N e v) := by
  refine rel_ext (rel_set (v := v) k 0 h hk (by rw [h1]; decide) he) (fun k' i' a b c => ?_)
  rw [hset_at, hput_at]
  by_cases z : k' = k
  · subst z
    have hi0 : i' = 0 := by omega
    rw [if_pos ⟨rfl, hi0⟩, if_pos rfl]
  · rw [if_neg (fun y => z y.1), if_neg z]
/-- who is posted lies where nothing else lies -/
theorem loc_24 {k i j : Nat} (hk : k < 17) (h2 : k ≠ 2) (hi : i < lnk k) (hj : j < 6) : loc k i ≠ 24 + j := fun e => h2 (loc_inj hk hi (by decide) (show j < lnk 2 from hj) e).1
theorem rel_24 {S : HV} {N : Nat → Int32} {v : Int32} {j : Nat} (h : RelC S N) (hj : j < 6) : RelC S (upd N (24 + j) v) := rel_ext2 h (fun _ _ a b c => pk_un (loc_24 a b c hj))
section RC
variable {S : HV} {N : Nat → Int32}
theorem rc0 (h : RelC S N) {r : Nat} (hr : r < 6) : N (12 + r) = S 0 r := h 0 r (by decide) (by decide) hr
theorem rc1 (h : RelC S N) {r : Nat} (hr : r < 6) : N (18 + r) = S 1 r := h 1 r (by decide) (by decide) hr
theorem loc3 {p r : Nat} (hp : p < 10) : 70 + 6 * p + r = loc 3 (r * 10 + p) := by
  show _ = 70 + 6 * ((r * 10 + p) % 10) + (r * 10 + p) / 10
  omega
theorem loc4 {p r : Nat} (hp : p < 10) : 130 + 6 * p + r = loc 4 (r * 10 + p) := by
  show _ = 130 + 6 * ((r * 10 + p) % 10) + (r * 10 + p) / 10
  omega
theorem rc3 (h : RelC S N) {p r : Nat} (hp : p < 10) (hr : r < 6) : N (70 + 6 * p + r) = S 3 (r * 10 + p) := by
  rw [loc3 hp]
  exact h 3 (r * 10 + p) (by decide) (by decide) (show r * 10 + p < 60 by omega)
theorem rc4 (h : RelC S N) {p r : Nat} (hp : p < 10) (hr : r < 6) : N (130 + 6 * p + r) = S 4 (r * 10 + p) := by
  rw [loc4 hp]
  exact h 4 (r * 10 + p) (by decide) (by decide) (show r * 10 + p < 60 by omega)
theorem rc5 (h : RelC S N) {p : Nat} (hp : p < 10) : N (30 + p) = S 5 p := h 5 p (by decide) (by decide) hp
theorem rc6 (h : RelC S N) {p : Nat} (hp : p < 10) : N (40 + p) = S 6 p := h 6 p (by decide) (by decide) hp
theorem rc7 (h : RelC S N) {p : Nat} (hp : p < 10) : N (50 + p) = S 7 p := h 7 p (by decide) (by decide) hp
theorem rc8 (h : RelC S N) {p : Nat} (hp : p < 10) : N (60 + p) = S 8 p := h 8 p (by decide) (by decide) hp
theorem rc9 (h : RelC S N) {p : Nat} (hp : p < 5) : N (5 + p) = S 9 p := h 9 p (by decide) (by decide) hp
theorem rc10 (h : RelC S N) : N 3 = S 10 0 := h 10 0 (by decide) (by decide) (by decide)
theorem rc11 (h : RelC S N) : N 4 = S 11 0 := h 11 0 (by decide) (by decide) (by decide)
theorem rc12 (h : RelC S N) : N 0 = S 12 0 := h 12 0 (by decide) (by decide) (by decide)
theorem rc13 (h : RelC S N) : N 1 = S 13 0 := h 13 0 (by decide) (by decide) (by decide)
theorem rc14 (h : RelC S N) : N 2 = S 14 0 := h 14 0 (by decide) (by decide) (by decide)
theorem rc15 (h : RelC S N) : N 11 = S 15 0 := h 15 0 (by decide) (by decide) (by decide)
theorem rc16 (h : RelC S N) : N 10 = S 16 0 := h 16 0 (by decide) (by decide) (by decide)
end RC
/-- what is so of every house: of R roles and P players, and no day behind B -/
def hI (S : HV) (R P B : Nat) : Prop := (S 10 0 = nI R ∧ R ≤ 6) ∧ (S 11 0 = nI P ∧ P ≤ 10) ∧ (S 16 0 = 0 ∨ S 16 0 = 1) ∧ (∀ r, r < R → ∃ v, 1 ≤ v ∧ v ≤ 9 ∧ S 0 r = nI v) ∧ (∀ i, i < 60 → ∃ v, v ≤ 9 ∧ S 3 i = nI v) ∧ (∀ r, r < 6 → S 1 r = -1 ∨ ∃ q, q < P ∧ S 1 r = nI q) ∧ (∃ t, t ≤ B ∧ S 12 0 = nI t) ∧ (∀ p, p < 10 → ∃ t, t ≤ B + 99 ∧ S 7 p = nI t) ∧ (∀ p, P ≤ p → p < 10 → S 6 p = 0)
/-- a house and the model's ints are of one state -/
def SR (S : HV) (N : Nat → Int32) (R P B : Nat) : Prop := hI S R P B ∧ RelC S N ∧ (S 16 0 = 1 → ∀ r, r < R → N (24 + r) = S 2 r)
theorem hI_more {S : HV} {R P B B' : Nat} (h : hI S R P B) (hb : B ≤ B') : hI S R P B' := by
  obtain ⟨a1, a2, a3, a4, a5, a6, ⟨t, a7, a8⟩, a9, a10⟩ := h
  refine ⟨a1, a2, a3, a4, a5, a6, ⟨t, by omega, a8⟩, fun p hp => ?_, a10⟩
  obtain ⟨u, b1, b2⟩ := a9 p hp
  exact ⟨u, by omega, b2⟩
theorem SR_more {S : HV} {N : Nat → Int32} {R P B B' : Nat} (h : SR S N R P B) (hb : B ≤ B') : SR S N R P B' := ⟨hI_more h.1 hb, h.2⟩
/-! the casts are the same -/
theorem free_iff {S : HV} {N : Nat → Int32} {p : Nat} (h : RelC S N) (hp : p < 10) : mFree N p ↔ hFree S p := by
  unfold mFree hFree
  rw [rc7 h hp, rc12 h, rc6 h hp, show N 5 = S 9 0 from rc9 h (p := 0) (by decide)]
theorem mW_eq {S : HV} {N : Nat → Int32} {p r : Nat} (h : RelC S N) (hp : p < 10) (hr : r < 6) : mW N p r = wOf S p r := by
  unfold mW wOf
  rw [rc3 h hp hr, rc0 h hr, rc1 h hr]
theorem wOf_nat {S : HV} {R P B p r : Nat} (h : hI S R P B) (hp : p < 10) (hr : r < R) : ∃ v, v ≤ 171 ∧ wOf S p r = nI v ∧ (0 < S 3 (r * 10 + p) → 0 < v) ∧ (S 3 (r * 10 + p) = 0 → v = 0) := by
  obtain ⟨w, w1, w2, w3⟩ := h.2.2.2.1 r hr
  obtain ⟨d, d1, d2⟩ := h.2.2.2.2.1 (r * 10 + p) (by have := h.1.2; omega)
  unfold wOf
  rw [d2, w3]
  by_cases c : d = 0
  · subst c
    exact ⟨0, by omega, if_pos rfl, fun z => absurd z (by decide), fun _ => rfl⟩
  · have hd : ¬ nI d = 0 := fun z => c ((nn_eq (rfl : nI d = nI d) (rfl : (0 : Int32) = nI 0) (by omega) (by decide)).mp z)
    rw [if_neg hd]
    by_cases f : S 1 r = nI p
    · rw [if_pos f, show nI d + 10 = nI (d + 10) from nI_add d 10, pk_mul]
      refine ⟨w * (d + 10), ?_, rfl, fun _ => Nat.mul_pos (by omega) (by omega), fun z => absurd z hd⟩
      exact Nat.le_trans (Nat.mul_le_mul w2 (show d + 10 ≤ 19 by omega)) (by decide)
    · rw [if_neg f, pk_mul]
      refine ⟨w * d, ?_, rfl, fun _ => Nat.mul_pos (by omega) (by omega), fun z => absurd z hd⟩
      exact Nat.le_trans (Nat.mul_le_mul w2 (show d ≤ 9 by omega)) (by decide)
theorem ok_of {S : HV} {N : Nat → Int32} {R P B : Nat} (h : hI S R P B) (hc : RelC S N) : mOK N R P := by
  intro p r hp hr
  have hR := h.1.2
  have hP := h.2.1.2
  obtain ⟨v, a, b, c, -⟩ := wOf_nat h (show p < 10 by omega) hr
  refine ⟨v, a, (mW_eq hc (by omega) (by omega)).trans b, ?_⟩
  rw [rc3 hc (by omega) (by omega)]
  exact c
theorem wM_eq {S : HV} {N : Nat → Int32} {R P B F : Nat} (h : hI S R P B) (hc : RelC S N) (hF : ∀ p, p < P → (F.testBit p = true ↔ mFree N p)) : ∀ p r, p < P → r < R → wM N p r = wFr S F p r := by
  intro p r hp hr
  have hR := h.1.2
  have hP := h.2.1.2
  unfold wM wFr
  rw [mW_eq hc (by omega) (by omega), rc3 hc (by omega) (by omega)]
  by_cases f : mFree N p
  · rw [if_pos ((hF p hp).mpr f)]
    by_cases d : 0 < S 3 (r * 10 + p)
    · rw [if_pos ⟨f, d⟩]
    · rw [if_neg (fun z => d z.2)]
      obtain ⟨v, v1, v2⟩ := h.2.2.2.2.1 (r * 10 + p) (by omega)
      have hv : v = 0 := by
        rcases Nat.eq_zero_or_pos v with z | z
        · exact z
        · exact absurd (by rw [v2]; exact (nI_ltI (a := 0) (by decide) (by omega)).mpr z) d
      unfold wOf
      rw [v2, hv]
      rfl
  · rw [if_neg (fun z => f z.1), if_neg (fun z => f ((hF p hp).mp z))]
theorem frN_free {S : HV} {N : Nat → Int32} {P : Nat} (hc : RelC S N) (hP : P ≤ 10) : ∀ p, p < P → ((frN S P).testBit p = true ↔ mFree N p) := by
  intro p hp
  rw [frN_bit, free_iff hc (by omega)]
  exact ⟨fun z => z.2, fun z => ⟨hp, z⟩⟩
section SRs
variable {S : HV} {N : Nat → Int32} {R P B : Nat}
theorem w_eq (h : hI S R P B) (hc : RelC S N) : ∀ p r, p < P → r < R → wM N p r = wFr S (frN S P) p r := wM_eq h hc (frN_free hc h.2.1.2)
theorem str_eq (h : hI S R P B) (hc : RelC S N) : mStr N R P = hStr S R P := dpS_cong (w_eq h hc) R (Nat.le_refl _) 0
theorem str_neg (h : hI S R P B) (hc : RelC S N) : mStr N R P < 0 ↔ hStr S R P = -1 := by
  rw [mStr_neg (ok_of h hc) h.1.2, str_eq h hc]
theorem csG_eq (h : hI S R P B) (hc : RelC S N) {r : Nat} (hr : r < R) : csG N R P r = hCs S R P r := by
  unfold csG
  rw [if_pos hr]
  exact csF_cong (w_eq h hc) hr
theorem tk_eq (h : hI S R P B) (hc : RelC S N) (hd : ¬ hStr S R P = -1) {k : Nat} (hk : k ≤ R) : tkM N R P k = tkF (wFr S (frN S P)) R P k := by
  unfold tkM
  rw [str_eq h hc, if_neg hd, if_pos hk]
  exact tkF_cong (w_eq h hc) k hk
theorem pkq_eq (h : hI S R P B) (hc : RelC S N) (hd : ¬ hStr S R P = -1) {k : Nat} (hk : k < R) : pkM N R P k = pkw S R P k := by
  unfold pkM pkw
  rw [tk_eq h hc hd (by omega)]
  exact pick_cong (w_eq h hc) hk _
end SRs

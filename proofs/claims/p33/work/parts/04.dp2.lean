/-! casting: what its methods do, over a table -/
abbrev wC (C : HV) : Nat → Nat → Int32 := fun p r => C 1 (r * 10 + p)
abbrev swC (C : HV) (p r t : Nat) : Int32 := swF (wC C) p r t (C 0 (t ||| 2 ^ p))
def pkC (C : HV) (P r t : Nat) : Nat := pkF (fun p => decide (swC C p r t = C 0 t)) 0 P
def tkC (C : HV) (P : Nat) : Nat → Nat | 0 => 0 | r + 1 => if C 5 0 ≠ 0 ∧ pkC C P r (tkC C P r) < P then tkC C P r ||| 2 ^ pkC C P r (tkC C P r) else tkC C P r
def chC (C : HV) (P r : Nat) : Int32 := if C 5 0 ≠ 0 ∧ pkC C P r (tkC C P r) < P then nI (pkC C P r (tkC C P r)) else -1
def chR (C : HV) (P k : Nat) : Nat → Int32 := fun j => if j < k then chC C P j else C 2 j
theorem tkC_lt (C : HV) {P : Nat} (hP : P ≤ 10) : ∀ r, tkC C P r < 1024
  | 0 => by
    unfold tkC
    decide
  | r + 1 => by
    unfold tkC
    have h := tkC_lt C hP r
    split
    · rename_i c
      exact set_lt (P := 10) h (by omega)
    · exact h
theorem chR_0 (C : HV) (P : Nat) : C 2 = chR C P 0 := by
  funext j
  simp [chR]
theorem chR_s (C : HV) (P k : Nat) {x : Int32} (h : x = chC C P k) : upd (chR C P k) k x = chR C P (k + 1) := by
  funext j
  unfold upd chR
  by_cases e : j = k
  · subst e
    simp [h]
  · simp only [if_neg e]
    by_cases c : j < k
    · rw [if_pos c, if_pos (by omega)]
    · rw [if_neg c, if_neg (by omega)]
def wFr (S : HV) (F : Nat) : Nat → Nat → Int32 := fun p r => if F.testBit p = true then wOf S p r else 0
abbrev castOK (w : Nat → Nat → Int32) (R P : Nat) (C : HV) : Prop := C 3 0 = nI R ∧ ∀ r, r < R → C 2 r = csF w R P r
/-- the casting over a table that is right -/
theorem choose_ok {w : Nat → Nat → Int32} {R P F : Nat} {C : HV} (hP : P ≤ 10) (hw : ∀ p r, p < P → r < R → wC C p r = w p r) (hF : ∀ p r, p < P → r < R → w p r ≠ 0 → F.testBit p = true) (ht : tabOK w R P F (C 0) 0)
    (h5 : C 5 0 = (if C 0 0 = -1 then 0 else 1)) : ∀ r, r < R → chC C P r = csF w R P r := by
  have h0 : C 0 0 = dpS w R P R 0 := by
    have := ht 0 (Nat.zero_le _) (Nat.two_pow_pos _) (fun q hq => by simp at hq) (by rw [pop_0]; exact Nat.zero_le _)
    rw [this, pop_0, Nat.sub_zero]
  by_cases hd : dpS w R P R 0 = -1
  · intro r _
    rw [chC, csF, if_pos hd, if_neg]
    rw [h5, h0, if_pos hd]
    simp
  · have h5 : C 5 0 ≠ 0 := by rw [h5, h0, if_neg hd]; decide
    -- the sets are the same
    have key : ∀ r, r ≤ R → tkC C P r = tkF w R P r ∧ ∀ r', r' < r → pkC C P r' (tkC C P r') = pick w R P r' (tkF w R P r') ∧ pick w R P r' (tkF w R P r') < P := by
      intro r
      induction r with
      | zero => exact fun _ => ⟨rfl, fun r' h => absurd h (Nat.not_lt_zero _)⟩
      | succ r ih =>
        intro hr
        obtain ⟨e, ih2⟩ := ih (by omega)
        obtain ⟨a1, a2, a3, a4⟩ := tkF_spec hP hd r (by omega)
        obtain ⟨b1, b2, b3, b4, b5, b6⟩ := pick_spec (by omega) a1
        have hsub : ∀ q, (tkF w R P r).testBit q = true → F.testBit q = true := fun q hq => by
          obtain ⟨r', c1, -, c3, c4⟩ := a4 q hq
          exact hF q r' c3 (by omega) c4
        have hT : C 0 (tkF w R P r) = dpS w R P (R - r) (tkF w R P r) := by
          rw [ht _ (Nat.zero_le _) a2 hsub (by omega), a3]
        have hsw : ∀ p, p < P → swC C p r (tkF w R P r) = swF w p r (tkF w R P r) (dpS w R P (R - (r + 1)) (tkF w R P r ||| 2 ^ p)) := by
          intro p hp
          unfold swC swF
          rw [hw p r hp (by omega)]
          by_cases c : w p r = 0 ∨ (tkF w R P r).testBit p = true
          · rw [if_pos c, if_pos c]
          · rw [if_neg c, if_neg c]
            have c2 : (tkF w R P r).testBit p = false := by
              cases hb : (tkF w R P r).testBit p
              · rfl
              · exact absurd (Or.inr hb) c
            have e9 := ht (tkF w R P r ||| 2 ^ p) (Nat.zero_le _) (set_lt a2 hp) (fun q hq => by
              rw [bit_set] at hq
              rcases Bool.or_eq_true _ _ ▸ hq with e | e
              · exact hsub q e
              · rw [← of_decide_eq_true e]
                exact hF p r hp (by omega) (fun z => c (Or.inl z))) (by rw [pop_set (by omega) c2]; omega)
            rw [pop_set (by omega) c2, a3] at e9
            rw [e9]
        have hpk : pkC C P r (tkC C P r) = pick w R P r (tkF w R P r) := by
          rw [e]
          have hc : ∀ (n i : Nat) (c c' : Nat → Bool), (∀ p, i ≤ p → p < i + n → c p = c' p) → pkF c i n = pkF c' i n := by
            intro n
            induction n with
            | zero => intro i c c' _; rfl
            | succ n ih =>
              intro i c c' hcc
              unfold pkF
              rw [hcc i (Nat.le_refl _) (by omega), ih (i + 1) c c' (fun p a b => hcc p (by omega) (by omega))]
          unfold pkC pick
          refine hc P 0 _ _ (fun p _ hp => ?_)
          rw [hsw p (by omega), hT]
        refine ⟨?_, fun r' hr' => ?_⟩
        · rw [tkC, tkF, hpk, if_pos ⟨h5, b1⟩, e]
        · rcases Nat.eq_or_lt_of_le (Nat.le_of_lt_succ hr') with z | z
          · subst z
            exact ⟨hpk, b1⟩
          · exact ih2 r' z
    intro r hr
    obtain ⟨-, k2⟩ := key (r + 1) (by omega)
    obtain ⟨k3, k4⟩ := k2 r (by omega)
    rw [chC, csF, if_neg hd, k3, if_pos ⟨h5, k4⟩]

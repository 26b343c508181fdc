/-! what is so between two calls of the law -/
theorem SR_ext {S : HV} {N O : Nat → Int32} {R P B : Nat} (h : SR S N R P B) (e : ∀ j, j < 190 → O j = N j) : SR S O R P B := by
  have hR := h.1.1.2
  refine ⟨h.1, fun k i a b c => ?_, fun z r hr => ?_⟩
  · rw [e _ (loc_inv k a i c).2]
    exact h.2.1 k i a b c
  · rw [e _ (by omega)]
    exact h.2.2 z r hr
def TI (T M : HV) (L : Nat) (ch : Nat → Nat) : Prop := (T 1 0 = nI L ∧ L ≤ 120 ∧ ∀ j, j < L → T 0 j = nI (ch j) ∧ ch j < 256) ∧ M 7 0 = nI L ∧ ∀ j, j < L → M 6 j = nI (ch j) ∧ ch j < 256
def HI (B : Nat) (M : HV) (cn nx : Nat) (Ss : Nat → HV) : Prop := M 3 0 = nI cn ∧ cn ≤ 14 ∧ nx < 14 ∧ (∀ j, j < 14 → Ss j 16 0 = 0 ∨ Ss j 16 0 = 1) ∧ ∀ j, j < cn → ∃ R P, SR (Ss ((nx + 14 - cn + j) % 14)) (fun e => M 2 (190 * j + e)) R P B
def SI (B : Nat) (M : HV) (Sl : Nat → HV) (V : Nat → Int32) : Prop := (∀ k, k < 2 → M 5 k = V k ∧ (V k = 0 ∨ V k = 1)) ∧ (∀ k, k < 2 → Sl k 16 0 = 0 ∨ Sl k 16 0 = 1) ∧ ∀ k, k < 2 → V k = 1 → ∃ R P, SR (Sl k) (fun e => M 4 (190 * k + e)) R P B
def LI (B : Nat) (T S M : HV) (cn nx : Nat) (Ss Sl : Nat → HV) (V : Nat → Int32) (R P L : Nat) (ch : Nat → Nat) : Prop := TI T M L ch ∧ SR S (M 0) R P B ∧ HI B M cn nx Ss ∧ SI B M Sl V
section LM
variable {B : Nat} {T S M M' : HV} {cn nx : Nat} {Ss Sl : Nat → HV} {V : Nat → Int32} {R P L : Nat} {ch : Nat → Nat}
theorem HI_more {B' : Nat} (h : HI B M cn nx Ss) (hb : B ≤ B') (e2 : M' 2 = M 2) (e3 : M' 3 0 = M 3 0) : HI B' M' cn nx Ss := by
  obtain ⟨a1, a2, a3, a4, a5⟩ := h
  refine ⟨by rw [e3]; exact a1, a2, a3, a4, fun j hj => ?_⟩
  obtain ⟨R, P, b⟩ := a5 j hj
  rw [e2]
  exact ⟨R, P, SR_more b hb⟩
theorem SI_more {B' : Nat} (h : SI B M Sl V) (hb : B ≤ B') (e4 : M' 4 = M 4) (e5 : M' 5 = M 5) : SI B' M' Sl V := by
  obtain ⟨a1, a2, a3⟩ := h
  refine ⟨by rw [e5]; exact a1, a2, fun k hk hv => ?_⟩
  obtain ⟨R, P, b⟩ := a3 k hk hv
  rw [e4]
  exact ⟨R, P, SR_more b hb⟩
theorem TI_more (h : TI T M L ch) (e6 : M' 6 = M 6) (e7 : M' 7 0 = M 7 0) : TI T M' L ch := ⟨h.1, by rw [e7]; exact h.2.1, by rw [e6]; exact h.2.2⟩
/-- nothing but what is laid for a while has changed -/
theorem LI_keep {B' : Nat} (h : LI B T S M cn nx Ss Sl V R P L ch) (hb : B ≤ B') (e0 : M' 0 = M 0) (e2 : M' 2 = M 2) (e3 : M' 3 0 = M 3 0) (e4 : M' 4 = M 4) (e5 : M' 5 = M 5) (e6 : M' 6 = M 6) (e7 : M' 7 0 = M 7 0) : LI B' T S M' cn nx Ss Sl V R P L ch :=
  ⟨TI_more h.1 e6 e7, by rw [e0]; exact SR_more h.2.1 hb, HI_more h.2.2.1 hb e2 e3, SI_more h.2.2.2 hb e4 e5⟩
theorem HI_push (h : HI B M cn nx Ss) (hs : SR S (M 0) R P B) (e2 : M' 2 = remP (M 0) (M 2) cn) (e3 : M' 3 0 = nI (remC cn)) : HI B M' (if cn < 14 then cn + 1 else cn) (if nx + 1 < 14 then nx + 1 else 0) (va_up Ss nx S) := by
  obtain ⟨a1, a2, a3, a4, a5⟩ := h
  have hcn : (if cn < 14 then cn + 1 else cn) = remC cn := by
    unfold remC
    split <;> split <;> omega
  have hr14 : remC cn ≤ 14 := by
    unfold remC
    split <;> omega
  refine ⟨by rw [e3, hcn], by rw [hcn]; exact hr14, by split <;> omega, fun j hj => ?_, fun j hj => ?_⟩
  · unfold va_up
    by_cases c : j = nx
    · rw [if_pos c]
      exact hs.1.2.2.1
    · rw [if_neg c]
      exact a4 j hj
  · rw [hcn] at hj ⊢
    rw [e2]
    by_cases c : cn = 14
    · subst c
      have hj14 : j < 14 := by
        have : remC 14 = 14 := rfl
        omega
      have hix : (((if nx + 1 < 14 then nx + 1 else 0) + 14 - remC 14 + j) % 14) = (nx + 1 + j) % 14 := by
        have : remC 14 = 14 := rfl
        rw [this]
        split <;> omega
      rw [hix]
      rcases Nat.lt_or_ge j 13 with z | z
      · obtain ⟨R', P', b⟩ := a5 (j + 1) (by omega)
        refine ⟨R', P', ?_⟩
        rw [va_up_ne _ _ (show (nx + 1 + j) % 14 ≠ nx by omega), show (nx + 1 + j) % 14 = (nx + 14 - 14 + (j + 1)) % 14 by omega]
        refine SR_ext b (fun e he => ?_)
        unfold remP layF shF
        rw [if_pos rfl, if_neg (by omega), if_pos (by omega)]
        exact congrArg (M 2) (by omega)
      · have hj13 : j = 13 := by omega
        subst hj13
        refine ⟨R, P, ?_⟩
        rw [show (nx + 1 + 13) % 14 = nx by omega, va_up_self]
        refine SR_ext hs (fun e he => ?_)
        unfold remP layF
        rw [if_pos rfl, if_pos (by omega)]
        exact congrArg (M 0) (by omega)
    · have hrc : remC cn = cn + 1 := if_neg c
      rw [hrc] at hj ⊢
      have hix : (((if nx + 1 < 14 then nx + 1 else 0) + 14 - (cn + 1) + j) % 14) = (nx + 14 - cn + j) % 14 := by
        split <;> omega
      rw [hix]
      rcases Nat.lt_or_ge j cn with z | z
      · obtain ⟨R', P', b⟩ := a5 j z
        refine ⟨R', P', ?_⟩
        rw [va_up_ne _ _ (show (nx + 14 - cn + j) % 14 ≠ nx by omega)]
        refine SR_ext b (fun e he => ?_)
        unfold remP layF
        rw [if_neg c, if_neg (by omega)]
      · have hjc : j = cn := by omega
        subst hjc
        refine ⟨R, P, ?_⟩
        rw [show (nx + 14 - j + j) % 14 = nx by omega, va_up_self]
        refine SR_ext hs (fun e he => ?_)
        unfold remP layF
        rw [if_neg c, if_pos (by omega)]
        exact congrArg (M 0) (by omega)
/-- an action is done -/
theorem LI_act {B' : Nat} {S' : HV} {N' : Nat → Int32} {R' P' : Nat} (h : LI B T S M cn nx Ss Sl V R P L ch) (hb : B ≤ B') (hs : SR S' N' R' P' B') (e0 : M' 0 = N') (e2 : M' 2 = remP (M 0) (M 2) cn) (e3 : M' 3 0 = nI (remC cn)) (e4 : M' 4 = M 4) (e5 : M' 5 = M 5) (e6 : M' 6 = M 6) (e7 : M' 7 0 = M 7 0) : LI B' T S' M' (if cn < 14 then cn + 1 else cn) (if nx + 1 < 14 then nx + 1 else 0) (va_up Ss nx S) Sl V R' P' L ch := by
  refine ⟨TI_more h.1 e6 e7, by rw [e0]; exact hs, ?_, SI_more h.2.2.2 hb e4 e5⟩
  exact HI_more (M := M') (HI_push h.2.2.1 h.2.1 e2 e3) hb rfl rfl
/-- the last action is taken back -/
theorem LI_undo {B' : Nat} (h : LI B T S M cn nx Ss Sl V R P L ch) (hb : B ≤ B') (hc : ¬ cn = 0) (e0 : M' 0 = layF (M 2) (M 0) (190 * (cn - 1)) 0 190) (e2 : M' 2 = M 2) (e3 : M' 3 0 = nI (cn - 1)) (e4 : M' 4 = M 4) (e5 : M' 5 = M 5) (e6 : M' 6 = M 6) (e7 : M' 7 0 = M 7 0) : ∃ R' P', LI B' T (Ss (if 0 < nx then nx - 1 else 13)) M' (cn - 1) (if 0 < nx then nx - 1 else 13) Ss Sl V R' P' L ch := by
  obtain ⟨h1, h2, ⟨a1, a2, a3, a4, a5⟩, h4⟩ := h
  obtain ⟨R', P', b⟩ := a5 (cn - 1) (by omega)
  have hix : (nx + 14 - cn + (cn - 1)) % 14 = (if 0 < nx then nx - 1 else 13) := by
    split <;> omega
  rw [hix] at b
  refine ⟨R', P', TI_more h1 e6 e7, ?_, ⟨e3, by omega, by split <;> omega, a4, fun j hj => ?_⟩, SI_more h4 hb e4 e5⟩
  · rw [e0]
    refine SR_ext (SR_more b hb) (fun e he => ?_)
    unfold layF
    rw [if_pos (by omega)]
    exact congrArg (M 2) (by omega)
  · obtain ⟨R'', P'', b2⟩ := a5 j (by omega)
    have hi2 : ((if 0 < nx then nx - 1 else 13) + 14 - (cn - 1) + j) % 14 = (nx + 14 - cn + j) % 14 := by
      split <;> omega
    rw [hi2, e2]
    exact ⟨R'', P'', SR_more b2 hb⟩
theorem LI_save {B' k : Nat} (h : LI B T S M cn nx Ss Sl V R P L ch) (hb : B ≤ B') (hk : k < 2) (e0 : M' 0 = M 0) (e2 : M' 2 = M 2) (e3 : M' 3 0 = M 3 0) (e4 : M' 4 = layF (M 0) (M 4) 0 (190 * k) 190) (e5 : M' 5 = upd (M 5) k 1) (e6 : M' 6 = M 6) (e7 : M' 7 0 = M 7 0) : LI B' T S M' cn nx Ss (va_up Sl k S) (upd V k 1) R P L ch := by
  obtain ⟨h1, h2, h3, a1, a2, a3⟩ := h
  refine ⟨TI_more h1 e6 e7, by rw [e0]; exact SR_more h2 hb, HI_more h3 hb e2 e3, fun j hj => ?_, fun j hj => ?_, fun j hj hv => ?_⟩
  · rw [e5]
    by_cases c : j = k
    · rw [c, pk_us, pk_us]
      exact ⟨rfl, Or.inr rfl⟩
    · rw [pk_un c, pk_un c]
      exact a1 j hj
  · unfold va_up
    by_cases c : j = k
    · rw [if_pos c]
      exact h2.1.2.2.1
    · rw [if_neg c]
      exact a2 j hj
  · by_cases c : j = k
    · subst c
      refine ⟨R, P, ?_⟩
      rw [va_up_self, e4]
      refine SR_ext (SR_more h2 hb) (fun e he => ?_)
      unfold layF
      rw [if_pos (by omega)]
      exact congrArg (M 0) (by omega)
    · rw [pk_un c] at hv
      obtain ⟨R', P', b⟩ := a3 j hj hv
      refine ⟨R', P', ?_⟩
      rw [va_up_ne _ _ c, e4]
      refine SR_ext (SR_more b hb) (fun e he => ?_)
      unfold layF
      rw [if_neg (by omega)]
theorem LI_restore {B' k : Nat} (h : LI B T S M cn nx Ss Sl V R P L ch) (hb : B ≤ B') (hk : k < 2) (hv : ¬ V k = 0) (e0 : M' 0 = layF (M 4) (M 0) (190 * k) 0 190) (e3 : M' 3 0 = 0) (e4 : M' 4 = M 4) (e5 : M' 5 = M 5) (e6 : M' 6 = M 6) (e7 : M' 7 0 = M 7 0) : ∃ R' P', LI B' T (Sl k) M' 0 nx Ss Sl V R' P' L ch := by
  obtain ⟨h1, h2, ⟨b1, b2, b3, b4, b5⟩, a1, a2, a3⟩ := h
  obtain ⟨R', P', b⟩ := a3 k hk ((a1 k hk).2.resolve_left hv)
  refine ⟨R', P', TI_more h1 e6 e7, ?_, ⟨e3, by omega, b3, b4, fun j hj => absurd hj (Nat.not_lt_zero _)⟩, SI_more ⟨a1, a2, a3⟩ hb e4 e5⟩
  rw [e0]
  refine SR_ext (SR_more b hb) (fun e he => ?_)
  unfold layF
  rw [if_pos (by omega)]
  exact congrArg (M 4) (by omega)
theorem LI_append {B' v : Nat} (h : LI B T S M cn nx Ss Sl V R P L ch) (hb : B ≤ B') (hL : L < 120) (hv : v < 256) (e0 : M' 0 = M 0) (e2 : M' 2 = M 2) (e3 : M' 3 0 = M 3 0) (e4 : M' 4 = M 4) (e5 : M' 5 = M 5) (e6 : M' 6 = upd (M 6) L (nI v)) (e7 : M' 7 0 = nI (L + 1)) : LI B' (tPut T L v) S M' cn nx Ss Sl V R P (L + 1) (fun j => if j = L then v else ch j) := by
  obtain ⟨⟨⟨t1, t2, t3⟩, t4, t5⟩, h2, h3, h4⟩ := h
  refine ⟨⟨⟨?_, by omega, fun j hj => ?_⟩, e7, fun j hj => ?_⟩, by rw [e0]; exact SR_more h2 hb, HI_more h3 hb e2 e3, SI_more h4 hb e4 e5⟩
  · show T 1 0 + 1 = nI (L + 1)
    rw [t1, nI_1]
  · show upd (T 0) L (nI v) j = nI (if j = L then v else ch j) ∧ (if j = L then v else ch j) < 256
    by_cases c : j = L
    · rw [if_pos c, c, pk_us]
      exact ⟨rfl, hv⟩
    · rw [if_neg c, pk_un c]
      exact t3 j (by omega)
  · rw [e6]
    show upd (M 6) L (nI v) j = nI (if j = L then v else ch j) ∧ (if j = L then v else ch j) < 256
    by_cases c : j = L
    · rw [if_pos c, c, pk_us]
      exact ⟨rfl, hv⟩
    · rw [if_neg c, pk_un c]
      exact t5 j (by omega)
theorem LI_clear {B' : Nat} (h : LI B T S M cn nx Ss Sl V R P L ch) (hb : B ≤ B') (e0 : M' 0 = M 0) (e2 : M' 2 = M 2) (e3 : M' 3 0 = M 3 0) (e4 : M' 4 = M 4) (e5 : M' 5 = M 5) (e7 : M' 7 0 = 0) : LI B' (hput T 1 0) S M' cn nx Ss Sl V R P 0 ch := by
  obtain ⟨h1, h2, h3, h4⟩ := h
  exact ⟨⟨⟨rfl, by omega, fun j hj => absurd hj (Nat.not_lt_zero _)⟩, e7, fun j hj => absurd hj (Nat.not_lt_zero _)⟩, by rw [e0]; exact SR_more h2 hb, HI_more h3 hb e2 e3, SI_more h4 hb e4 e5⟩
theorem LI_load {B' : Nat} {S' : HV} {N' : Nat → Int32} {R' P' : Nat} (h : LI B T S M cn nx Ss Sl V R P L ch) (hs : SR S' N' R' P' B') (e0 : M' 0 = N') (e3 : M' 3 0 = 0) (e50 : M' 5 0 = 0) (e51 : M' 5 1 = 0) (e6 : M' 6 = M 6) (e7 : M' 7 0 = M 7 0) : LI B' T S' M' 0 nx Ss Sl (upd (upd V 0 0) 1 0) R' P' L ch := by
  obtain ⟨h1, h2, ⟨b1, b2, b3, b4, b5⟩, a1, a2, a3⟩ := h
  refine ⟨TI_more h1 e6 e7, by rw [e0]; exact hs, ⟨e3, by omega, b3, b4, fun j hj => absurd hj (Nat.not_lt_zero _)⟩, fun k hk => ?_, a2, fun k hk hv => ?_⟩
  · rcases (show k = 0 ∨ k = 1 by omega) with rfl | rfl
    · exact ⟨e50, Or.inl rfl⟩
    · exact ⟨e51, Or.inl rfl⟩
  · exfalso
    rcases (show k = 0 ∨ k = 1 by omega) with rfl | rfl
    · exact absurd hv (by show ¬ (0 : Int32) = 1; decide)
    · exact absurd hv (by show ¬ (0 : Int32) = 1; decide)
end LM

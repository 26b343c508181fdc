/-! the model: its casts -/
def wM (N : Nat → Int32) (p r : Nat) : Int32 := if mFree N p ∧ 0 < N (70 + 6 * p + r) then mW N p r else 0
def mOK (N : Nat → Int32) (R P : Nat) : Prop := ∀ p r, p < P → r < R → ∃ v, v ≤ 171 ∧ mW N p r = nI v ∧ (0 < N (70 + 6 * p + r) → 0 < v)
abbrev mStr (N : Nat → Int32) (R P : Nat) : Int32 := dpS (wM N) R P R 0
theorem mxF_nat {f : Nat → Int32} {B k : Nat} (h : ∀ p, p < k → f p = -1 ∨ ∃ v, v ≤ B ∧ f p = nI v) : mxF f k = -1 ∨ ∃ v, v ≤ B ∧ mxF f k = nI v := by
  by_cases c : mxF f k = -1
  · exact Or.inl c
  · obtain ⟨p, hp, e⟩ := mxF_hit c
    rw [← e]
    exact h p hp
theorem dps_nat {w : Nat → Nat → Int32} {R P : Nat} (h : ∀ p r, p < P → r < R → ∃ v, v ≤ 171 ∧ w p r = nI v) : ∀ d, d ≤ R → ∀ t, dpS w R P d t = -1 ∨ ∃ v, v ≤ 171 * d ∧ dpS w R P d t = nI v
  | 0, _, _ => Or.inr ⟨0, by omega, rfl⟩
  | d + 1, hd, t => by
    unfold dpS
    refine mxF_nat fun p hp => ?_
    unfold swF
    split
    · exact Or.inl rfl
    · split
      · exact Or.inl rfl
      · rename_i c
        obtain ⟨v, hv, e⟩ := h p (R - (d + 1)) hp (by omega)
        rcases dps_nat h d (by omega) (t ||| 2 ^ p) with z | ⟨u, hu, z⟩
        · exact absurd z c
        · exact Or.inr ⟨v + u, by omega, by rw [e, z, nI_add]⟩
theorem neg_iff {x : Int32} {B : Nat} (hB : B < 2 ^ 31) (h : x = -1 ∨ ∃ v, v ≤ B ∧ x = nI v) : x < 0 ↔ x = -1 := by
  constructor
  · intro z
    rcases h with e | ⟨v, hv, e⟩
    · exact e
    · rw [e] at z
      exact absurd z (nI_pos (by omega))
  · intro e
    rw [e]
    decide
theorem wM_nat {N : Nat → Int32} {R P : Nat} (h : mOK N R P) : ∀ p r, p < P → r < R → ∃ v, v ≤ 171 ∧ wM N p r = nI v := by
  intro p r hp hr
  obtain ⟨v, a, b, -⟩ := h p r hp hr
  unfold wM
  split
  · exact ⟨v, a, b⟩
  · exact ⟨0, by omega, rfl⟩
theorem mStr_neg {N : Nat → Int32} {R P : Nat} (h : mOK N R P) (hR : R ≤ 6) : mStr N R P < 0 ↔ mStr N R P = -1 := neg_iff (B := 171 * R) (by omega) (dps_nat (wM_nat h) R (Nat.le_refl _) 0)
theorem fullF {P t : Nat} (ht : t < 2 ^ P) : ∀ q, t.testBit q = true → (2 ^ P - 1).testBit q = true := by
  intro q hq
  rw [Nat.testBit_two_pow_sub_one, decide_eq_true_eq]
  rcases Nat.lt_or_ge q P with c | c
  · exact c
  · rw [Nat.testBit_lt_two_pow (Nat.lt_of_lt_of_le ht (Nat.pow_le_pow_right (by decide) c))] at hq
    cases hq
theorem fullw {w : Nat → Nat → Int32} {R P : Nat} : ∀ p r, p < P → r < R → w p r ≠ 0 → (2 ^ P - 1).testBit p = true := by
  intro p r hp _ _
  rw [Nat.testBit_two_pow_sub_one, decide_eq_true_eq]
  exact hp
theorem go_sw {N E : Nat → Int32} {R P t p r : Nat} (hok : mOK N R P) (hp : p < P) (hr : r < R) {b : Int32} (hE : t.testBit p = false → E (t ||| 2 ^ p) = b ∧ (b < 0 ↔ b = -1)) : goM N E t p r = swF (wM N) p r t b := by
  obtain ⟨v, hv, ev, ep⟩ := hok p r hp hr
  unfold goM swF
  cases hb : t.testBit p
  · obtain ⟨e1, e2⟩ := hE hb
    rw [if_neg (by decide), e1]
    by_cases c : mFree N p ∧ 0 < N (70 + 6 * p + r)
    · have hw : wM N p r = mW N p r := if_pos c
      have hw0 : ¬ (wM N p r = 0 ∨ false = true) := by
        intro z
        rcases z with z | z
        · rw [hw, ev] at z
          have z2 : v = 0 := (nn_eq (a := v) (b := 0) rfl rfl (by omega) (by decide)).mp z
          have z3 : 0 < v := ep c.2
          omega
        · cases z
      rw [if_pos c, if_neg hw0, hw]
      by_cases d : b = -1
      · rw [if_pos (e2.mpr d), if_pos d]
      · rw [if_neg (fun z => d (e2.mp z)), if_neg d]
    · have hw : wM N p r = 0 := if_neg c
      rw [if_neg c, if_pos (Or.inl hw)]
  · rw [if_pos rfl, if_pos (Or.inr rfl)]
theorem go_dp {N E : Nat → Int32} {R P t p lo : Nat} (hR : R ≤ 6) (hP : P ≤ 10) (hok : mOK N R P) (hT : tabOK (wM N) R P (2 ^ P - 1) E lo) (hlo : lo ≤ t + 1) (ht : t < 2 ^ P) (hp : p < P) (hr : pop t < R) : goM N E t p (pop t) = swF (wM N) p (pop t) t (dpS (wM N) R P (R - (pop t + 1)) (t ||| 2 ^ p)) := by
  refine go_sw hok hp hr (fun hb => ?_)
  have e := hT (t ||| 2 ^ p) (Nat.le_trans hlo (set_gt hb)) (set_lt ht hp) (fullF (set_lt ht hp)) (by rw [pop_set (by omega) hb]; omega)
  rw [pop_set (by omega) hb] at e
  exact ⟨e, neg_iff (B := 171 * (R - (pop t + 1))) (by omega) (dps_nat (wM_nat hok) _ (by omega) _)⟩
theorem tabM_val {N E : Nat → Int32} {R P t : Nat} (hR : R ≤ 6) (hP : P ≤ 10) (hok : mOK N R P) (hT : tabOK (wM N) R P (2 ^ P - 1) E (t + 1)) (ht : t < 2 ^ P) (hr : pop t < R) : mxF (fun p => goM N E t p (pop t)) P = dpS (wM N) R P (R - pop t) t := by
  obtain ⟨d, hd⟩ : ∃ d, R - pop t = d + 1 := ⟨R - pop t - 1, by omega⟩
  rw [hd, dpS, show R - (d + 1) = pop t by omega]
  refine mxF_cong fun p hp => ?_
  rw [go_dp hR hP hok hT (Nat.le_refl _) ht hp hr, show R - (pop t + 1) = d by omega]
theorem tab_any {w : Nat → Nat → Int32} {R P F t : Nat} {B : Nat → Int32} {v : Int32} (h : tabOK w R P F B (t + 1)) (hv : pop t ≤ R → v = dpS w R P (R - pop t) t) : tabOK w R P F (upd B t v) t := by
  intro t' h1 h2 h3 h4
  by_cases e : t' = t
  · subst e
    rw [pk_us]
    exact hv h4
  · rw [pk_un e]
    exact h t' (by omega) h2 h3 h4
/-- what is best for a set, among the first k -/
def bsM (N E : Nat → Int32) (t R k : Nat) : Int32 := if pop t < R then mxF (fun p => goM N E t p (pop t)) k else if pop t = R then 0 else -1
theorem bs_val {N E : Nat → Int32} {R P t k : Nat} (hR : R ≤ 6) (hP : P ≤ 10) (hok : mOK N R P) (hT : tabOK (wM N) R P (2 ^ P - 1) E (t + 1)) (ht : t < 2 ^ P) (hk : k ≤ P) (hx : P ≤ k ∨ R ≤ pop t) (hpr : pop t ≤ R) : bsM N E t R k = dpS (wM N) R P (R - pop t) t := by
  unfold bsM
  by_cases c : pop t < R
  · rw [if_pos c, show k = P by omega, tabM_val hR hP hok hT ht c]
  · rw [if_neg c, if_pos (by omega), show R - pop t = 0 by omega, dpS]
def tkM (N : Nat → Int32) (R P k : Nat) : Nat := if mStr N R P = -1 then 0 else tkF (wM N) R P (if k ≤ R then k else R)
def pkM (N : Nat → Int32) (R P k : Nat) : Nat := pick (wM N) R P k (tkM N R P k)
def csG (N : Nat → Int32) (R P r : Nat) : Int32 := if r < R then csF (wM N) R P r else -1
def mcR (N : Nat → Int32) (R P : Nat) (f : Nat → Int32) (k : Nat) : Nat → Int32 := fun j => if j < k then csG N R P j else f j
theorem mcR_0 (N : Nat → Int32) (R P : Nat) (f : Nat → Int32) : f = mcR N R P f 0 := by
  funext j
  simp [mcR]
theorem mcR_s {N : Nat → Int32} {R P : Nat} {f : Nat → Int32} {k : Nat} {v : Int32} (h : v = csG N R P k) : upd (mcR N R P f k) k v = mcR N R P f (k + 1) := by
  funext j
  unfold upd mcR
  by_cases e : j = k
  · subst e
    rw [if_pos rfl, if_pos (by omega), h]
  · rw [if_neg e]
    by_cases c : j < k
    · rw [if_pos c, if_pos (by omega)]
    · rw [if_neg c, if_neg (by omega)]
theorem tkM_lt {N : Nat → Int32} {R P : Nat} (hP : P ≤ 10) (k : Nat) : tkM N R P k < 2 ^ P := by
  unfold tkM
  by_cases c : mStr N R P = -1
  · rw [if_pos c]
    exact Nat.two_pow_pos _
  · rw [if_neg c]
    split
    · exact (tkF_spec hP c _ (by omega)).2.1
    · exact (tkF_spec hP c _ (Nat.le_refl _)).2.1
/-- what is so of the next one, when there is a cast -/
theorem pkM_spec {N E : Nat → Int32} {R P k : Nat} (hR : R ≤ 6) (hP : P ≤ 10) (hok : mOK N R P) (hT : tabOK (wM N) R P (2 ^ P - 1) E 0) (hd : ¬ mStr N R P = -1) (hk : k < R) : tkM N R P k = tkF (wM N) R P k ∧ pkM N R P k < P ∧ csG N R P k = nI (pkM N R P k) ∧ tkM N R P (k + 1) = tkM N R P k ||| 2 ^ pkM N R P k ∧ goM N E (tkM N R P k) (pkM N R P k) k = E (tkM N R P k) ∧ ∀ q, q < pkM N R P k → goM N E (tkM N R P k) q k ≠ E (tkM N R P k) := by
  have e0 : tkM N R P k = tkF (wM N) R P k := by
    unfold tkM
    rw [if_neg hd, if_pos (by omega)]
  obtain ⟨i1, i2, i3, -⟩ := tkF_spec hP hd k (by omega)
  obtain ⟨j1, j2, j3, j4, j5, j6⟩ := pick_spec hk i1
  have hgo : ∀ q, q < P → goM N E (tkF (wM N) R P k) q k = swF (wM N) q k (tkF (wM N) R P k) (dpS (wM N) R P (R - (k + 1)) (tkF (wM N) R P k ||| 2 ^ q)) := by
    intro q hq
    have := go_dp hR hP hok hT (Nat.zero_le _) i2 hq (by rw [i3]; exact hk)
    rw [i3] at this
    exact this
  have hE : E (tkF (wM N) R P k) = dpS (wM N) R P (R - k) (tkF (wM N) R P k) := by
    have := hT _ (Nat.zero_le _) i2 (fullF i2) (by rw [i3]; omega)
    rw [i3] at this
    exact this
  unfold pkM csG
  rw [e0]
  refine ⟨rfl, j1, ?_, ?_, ?_, fun q hq => ?_⟩
  · rw [if_pos hk, csF, if_neg hd]
  · unfold tkM
    rw [if_neg hd, if_pos (by omega)]
    rfl
  · rw [hgo _ j1, hE]
    exact j5
  · rw [hgo q (by omega), hE]
    exact j6 q hq
theorem tkM_stop {N : Nat → Int32} {R P k : Nat} (h : R ≤ k ∨ mStr N R P = -1) : tkM N R P k = tkM N R P (k + 1) := by
  unfold tkM
  by_cases c : mStr N R P = -1
  · rw [if_pos c, if_pos c]
  · rw [if_neg c, if_neg c]
    have hk : R ≤ k := h.elim id (fun z => absurd z c)
    congr 1
    split <;> split <;> omega
theorem csG_stop {N : Nat → Int32} {R P k : Nat} (h : R ≤ k ∨ mStr N R P = -1) : (-1 : Int32) = csG N R P k := by
  unfold csG
  by_cases c : k < R
  · rw [if_pos c, csF, if_pos (h.elim (fun z => by omega) id)]
  · rw [if_neg c]
theorem pk_hit {N E : Nat → Int32} {R P k q : Nat} (h : ∀ q, q < pkM N R P k → goM N E (tkM N R P k) q k ≠ E (tkM N R P k)) (hq : q ≤ pkM N R P k) (e : goM N E (tkM N R P k) q k = E (tkM N R P k)) : q = pkM N R P k := by
  rcases Nat.lt_or_eq_of_le hq with z | z
  · exact absurd e (h q z)
  · exact z
theorem pk_step {N E : Nat → Int32} {R P k q : Nat} (h : goM N E (tkM N R P k) (pkM N R P k) k = E (tkM N R P k)) (hq : q ≤ pkM N R P k) (e : ¬ goM N E (tkM N R P k) q k = E (tkM N R P k)) : q + 1 ≤ pkM N R P k := by
  rcases Nat.lt_or_eq_of_le hq with z | z
  · exact z
  · rw [z] at e
    exact absurd h e

abbrev rm_X6_casts_n : Room := { frames := 3, cells := 0, slots := 0, locals := 69 }
set_option maxHeartbeats 4000000 in
set_option maxRecDepth 100000 in
theorem c_X6_casts_n (l : Launch) (K : KX) (h : Nat) (a : Nat → Nat) (M : HV) (R : Nat) (hR0 : M 0 3 = nI R) (hR0b : R ≤ 6) (P : Nat) (hP0 : M 0 4 = nI P) (hP0b : P ≤ 10) (hok : mOK (M 0) R P) (sz : Nat) : Met l yX6_casts wsX6_casts rm_X6_casts_n (va_Pc [.ref h, .ref (a 0)] (xPre K (mw K h a M) sz)) (va_Qi (fun (r9 : Int32) (u9 : Nat → Int32) => r9 = mStr (M 0) R P) (fun u9 t => xPost K (va_A (mw K h a M) sz) (mw K h a (hrow (hrow M 9 u9) 10 (mcR (M 0) R P (M 10) 6))) t) (va_A (mw K h a M) sz)) 0 0 (va_A (mw K h a M) sz) := by
  refine xw_starti (cc := cX6_casts) (maxL := 8) (by decide) rfl (Nat.le_of_ble_eq_true rfl) ?_
  intro p9 e9 s9 m9 below9 meth9 c9 H locs ls A av9 Q9 hx hb hlocks hml hname hts hown hK hP hD hS hA hsz hend hl
  have hown : s9.vm.findClass RX6 = some m9.cls := hown
  have hl : lv_has ls 8 [(0, .ref h), (1, .ref (a 0))] := hl
  have hi6 : ∀ w ∈ u_ws RX6 TX6 14, w ∈ wsX6_casts := by decide +kernel
  have lk29 := hts (.fieldLink RX6 29 "StandInsModel" "reach" "[I") (by decide +kernel)
  have lk32 := hts (.fieldLink RX6 32 "StandInsModel" "cast" "[I") (by decide +kernel)
  have hpw := pw_le hP0b
  refine lv_iconst (v := (1 : Int32)) hx hb dX6_casts_0 (by decide) ?_
  refine lv_aload_n hx hb dX6_casts_1 rfl (lv_at hl 1 rfl) ?_
  refine lv_iconst (v := (4 : Int32)) hx hb dX6_casts_2 (by decide) ?_
  refine xi_ld hx hb hK hP 1 (f := M 0) rfl 4 rfl (by omega) (by decide) dX6_casts_3 ?_
  refine lv_ishl hx hb dX6_casts_4 ?_
  refine lv_istore_n (lv' := [(2, .int ((1 : Int32) <<< ((M 0 4) &&& 31))), (0, .ref h), (1, .ref (a 0))]) hx hb dX6_casts_5 rfl hl (by decide) rfl (fun ls hl => ?_)
  refine lv_iload_n hx hb dX6_casts_6 rfl (lv_at hl 0 rfl) ?_
  refine lv_iconst (v := (1 : Int32)) hx hb dX6_casts_7 (by decide) ?_
  refine lv_isub hx hb dX6_casts_8 ?_
  refine lv_istore_n (lv' := [(3, .int (((1 : Int32) <<< ((M 0 4) &&& 31)) - (1 : Int32))), (2, .int ((1 : Int32) <<< ((M 0 4) &&& 31))), (0, .ref h), (1, .ref (a 0))]) hx hb dX6_casts_9 rfl hl (by decide) rfl (fun ls hl => ?_)
  have lp10 : ∀ (n9 : Nat) (x : Int32) (t : Nat) (E : Nat → Int32) (H : Heap) (locs : List Loc) (ls : Array Slot), t < n9 → (x + 1 = nI t) → (t ≤ 2 ^ P) → (tabOK (wM (M 0)) R P (2 ^ P - 1) E t) → va_P K.1 vwCl (mw K h a (hrow M 9 E)) H → va_D A (mw K h a (hrow M 9 E)) → va_S A s9.heap H locs → lv_has ls 8 [(0, .ref h), (1, .ref (a 0)), (2, .int ((1 : Int32) <<< ((M 0 4) &&& 31))), (3, .int x)] → W p9 l e9 rm_X6_casts_n s9 m9 av9 below9 meth9 c9 H locs 0 0 Q9 (F0 m9 10 ls []) := by
    intro n9
    induction n9 with
    | zero => intro x t E H locs ls hmu hxx ht hT hP hD hS hl; exact absurd hmu (Nat.not_lt_zero _)
    | succ n9 ih10 =>
      intro x t E H locs ls hmu hxx ht hT hP hD hS hl
      refine lv_iload_n hx hb dX6_casts_10 rfl (lv_at hl 3 rfl) ?_
      refine lv_if_lt (tgt := 102) hx hb dX6_casts_11 (by decide) (fun c_11 => ?_) (fun c_11 => ?_)
      · skip
        have c_11n := Int32.not_le.mpr c_11
        have ht0 : t = 0 := nn_neg hxx (by omega) c_11
        subst ht0
        have hE0 := tab_0 hT
        refine lv_iconst (v := (0 : Int32)) hx hb dX6_casts_102 (by decide) ?_
        refine lv_istore_n (lv' := [(3, .int (0 : Int32)), (0, .ref h), (1, .ref (a 0)), (2, .int ((1 : Int32) <<< ((M 0 4) &&& 31)))]) hx hb dX6_casts_103 rfl hl (by decide) rfl (fun ls hl => ?_)
        refine lv_iconst (v := (0 : Int32)) hx hb dX6_casts_104 (by decide) ?_
        refine lv_istore (lv' := [(4, .int (0 : Int32)), (3, .int (0 : Int32)), (0, .ref h), (1, .ref (a 0)), (2, .int ((1 : Int32) <<< ((M 0 4) &&& 31)))]) hx hb dX6_casts_105 hl (by decide) rfl (fun ls hl => ?_)
        have lp107 : ∀ (n9 : Nat) (k : Nat) (H : Heap) (locs : List Loc) (ls : Array Slot), 6 - k < n9 → (k ≤ 6) → va_P K.1 vwCl (mw K h a (hrow (hrow M 9 E) 10 (mcR (M 0) R P (M 10) k))) H → va_D A (mw K h a (hrow (hrow M 9 E) 10 (mcR (M 0) R P (M 10) k))) → va_S A s9.heap H locs → lv_has ls 8 [(0, .ref h), (1, .ref (a 0)), (2, .int ((1 : Int32) <<< ((M 0 4) &&& 31))), (3, .int (nI (tkM (M 0) R P k))), (4, .int (nI k))] → W p9 l e9 rm_X6_casts_n s9 m9 av9 below9 meth9 c9 H locs 0 0 Q9 (F0 m9 107 ls []) := by
          intro n9
          induction n9 with
          | zero => intro k H locs ls hmu hk hP hD hS hl; exact absurd hmu (Nat.not_lt_zero _)
          | succ n9 ih107 =>
            intro k H locs ls hmu hk hP hD hS hl
            have htk := tkM_lt (N := (M 0)) (R := R) hP0b k
            refine lv_iload hx hb dX6_casts_107 (lv_at hl 4 rfl) ?_
            refine lv_bipush (v := (6 : Int32)) hx hb dX6_casts_109 (by decide) ?_
            refine xn_icmp_ge (tgt := 189) hx hb k 6 rfl rfl (by omega) (by decide) dX6_casts_111 (by decide) (fun c_111 => ?_) (fun c_111 => ?_)
            · skip
              refine lv_aload_n hx hb dX6_casts_189 rfl (lv_at hl 0 rfl) ?_
              refine va_get (ci := 6) (v := .ref (a 9)) (C := RX6) (T := TX6) (N := 14) hx hb hts hi6 hown hK hP 0 rfl rfl 9 (by decide) lk29 (fun _ h9 => h9) rfl dX6_casts_190 ?_
              refine lv_iconst (v := (0 : Int32)) hx hb dX6_casts_193 (by decide) ?_
              refine xi_ld hx hb hK hP 7 (f := E) rfl 0 rfl (by omega) (by decide) dX6_casts_194 ?_
              have eR1 : (mcR (M 0) R P (M 10) k) = mcR (M 0) R P (M 10) 6 := by rw [show k = 6 by omega]
              rw [eR1] at hP hD
              exact hend _ _ _ _ _ _ _ E hP hD hS (Nat.le_of_ble_eq_true rfl) (Nat.le_of_ble_eq_true rfl) (by exact hE0) dX6_casts_195
            · skip
              refine lv_aload_n hx hb dX6_casts_114 rfl (lv_at hl 0 rfl) ?_
              refine va_get (ci := 6) (v := .ref (a 10)) (C := RX6) (T := TX6) (N := 14) hx hb hts hi6 hown hK hP 0 rfl rfl 10 (by decide) lk32 (fun _ h9 => h9) rfl dX6_casts_115 ?_
              refine lv_iload hx hb dX6_casts_118 (lv_at hl 4 rfl) ?_
              refine lv_iconst (v := (-1 : Int32)) hx hb dX6_casts_120 (by decide) ?_
              refine xi_st hx hb hK hP hD hS 8 (f := (mcR (M 0) R P (M 10) k)) rfl k rfl (by omega) (by decide) (mw K h a (hrow (hrow M 9 E) 10 (upd (mcR (M 0) R P (M 10) k) k (-1 : Int32)))) rfl dX6_casts_121 (fun H locs hP hD hS => ?_)
              refine lv_iload hx hb dX6_casts_122 (lv_at hl 4 rfl) ?_
              refine lv_aload_n hx hb dX6_casts_124 rfl (lv_at hl 1 rfl) ?_
              refine lv_iconst (v := (3 : Int32)) hx hb dX6_casts_125 (by decide) ?_
              refine xi_ld hx hb hK hP 1 (f := M 0) rfl 3 rfl (by omega) (by decide) dX6_casts_126 ?_
              refine xn_icmp_ge (tgt := 183) hx hb k R rfl hR0 (by omega) (by omega) dX6_casts_127 (by decide) (fun c_127 => ?_) (fun c_127 => ?_)
              · skip
                have hst : R ≤ k ∨ mStr (M 0) R P = -1 := Or.inl c_127
                refine lv_iinc (v := nI (k + 1)) (lv' := [(4, .int (nI (k + 1))), (0, .ref h), (1, .ref (a 0)), (2, .int ((1 : Int32) <<< ((M 0 4) &&& 31))), (3, .int (nI (tkM (M 0) R P k)))]) hx hb dX6_casts_183 hl (k := 4) rfl (nI_1 _) (by decide) rfl (fun ls hl => ?_)
                refine lv_goto (tgt := 107) hx hb dX6_casts_186 (by decide) ?_
                have eR2 : (upd (mcR (M 0) R P (M 10) k) k (-1 : Int32)) = mcR (M 0) R P (M 10) (k + 1) := by first | exact mcR_s (csG_stop hst) | (rw [upd_upd]; exact mcR_s (by rw [hqe]; exact hpk.2.2.1.symm))
                rw [eR2] at hP hD
                have hP : va_P K.1 vwCl (mw K h a (hrow (hrow M 9 E) 10 (mcR (M 0) R P (M 10) (k + 1)))) H := hP
                have hD : va_D A (mw K h a (hrow (hrow M 9 E) 10 (mcR (M 0) R P (M 10) (k + 1)))) := hD
                exact ih107 (k + 1) _ _ _ (by omega) (by first | omega | assumption | first | rfl | (simp [c_11, c_11n, c_111, c_127]; done) | omega) hP hD hS (lv_cons (lv_at hl 1 rfl) (lv_cons (lv_at hl 2 rfl) (lv_cons (lv_at hl 3 rfl) (lv_cons (lv_is (lv_at hl 4 rfl) (show nI (tkM (M 0) R P k) = nI (tkM (M 0) R P (k + 1)) by first | exact congrArg nI (tkM_stop hst) | exact (nn_or rfl (nn_shl1 rfl rfl (by omega))).trans (congrArg nI (by rw [hqe]; exact hpk.2.2.2.1.symm)))) (lv_cons (lv_at hl 0 rfl) (lv_nil hl))))))
              · skip
                refine lv_aload_n hx hb dX6_casts_130 rfl (lv_at hl 0 rfl) ?_
                refine va_get (ci := 6) (v := .ref (a 9)) (C := RX6) (T := TX6) (N := 14) hx hb hts hi6 hown hK hP 0 rfl rfl 9 (by decide) lk29 (fun _ h9 => h9) rfl dX6_casts_131 ?_
                refine lv_iconst (v := (0 : Int32)) hx hb dX6_casts_134 (by decide) ?_
                refine xi_ld hx hb hK hP 7 (f := E) rfl 0 rfl (by omega) (by decide) dX6_casts_135 ?_
                refine lv_if_lt (tgt := 183) hx hb dX6_casts_136 (by decide) (fun c_136 => ?_) (fun c_136 => ?_)
                · skip
                  have c_136n := Int32.not_le.mpr c_136
                  have hst : R ≤ k ∨ mStr (M 0) R P = -1 := Or.inr ((mStr_neg hok hR0b).mp (show dpS (wM (M 0)) R P R 0 < 0 from hE0 ▸ c_136))
                  refine lv_iinc (v := nI (k + 1)) (lv' := [(4, .int (nI (k + 1))), (0, .ref h), (1, .ref (a 0)), (2, .int ((1 : Int32) <<< ((M 0 4) &&& 31))), (3, .int (nI (tkM (M 0) R P k)))]) hx hb dX6_casts_183 hl (k := 4) rfl (nI_1 _) (by decide) rfl (fun ls hl => ?_)
                  refine lv_goto (tgt := 107) hx hb dX6_casts_186 (by decide) ?_
                  have eR3 : (upd (mcR (M 0) R P (M 10) k) k (-1 : Int32)) = mcR (M 0) R P (M 10) (k + 1) := by first | exact mcR_s (csG_stop hst) | (rw [upd_upd]; exact mcR_s (by rw [hqe]; exact hpk.2.2.1.symm))
                  rw [eR3] at hP hD
                  have hP : va_P K.1 vwCl (mw K h a (hrow (hrow M 9 E) 10 (mcR (M 0) R P (M 10) (k + 1)))) H := hP
                  have hD : va_D A (mw K h a (hrow (hrow M 9 E) 10 (mcR (M 0) R P (M 10) (k + 1)))) := hD
                  exact ih107 (k + 1) _ _ _ (by omega) (by first | omega | assumption | first | rfl | (simp [c_11, c_11n, c_111, c_127, c_136, c_136n]; done) | omega) hP hD hS (lv_cons (lv_at hl 1 rfl) (lv_cons (lv_at hl 2 rfl) (lv_cons (lv_at hl 3 rfl) (lv_cons (lv_is (lv_at hl 4 rfl) (show nI (tkM (M 0) R P k) = nI (tkM (M 0) R P (k + 1)) by first | exact congrArg nI (tkM_stop hst) | exact (nn_or rfl (nn_shl1 rfl rfl (by omega))).trans (congrArg nI (by rw [hqe]; exact hpk.2.2.2.1.symm)))) (lv_cons (lv_at hl 0 rfl) (lv_nil hl))))))
                · skip
                  have c_136n := Int32.not_lt.mp c_136
                  have hpk := pkM_spec (k := k) hR0b hP0b hok hT (fun z => c_136 (hE0 ▸ (mStr_neg hok hR0b).mpr z)) c_127
                  refine lv_iconst (v := (0 : Int32)) hx hb dX6_casts_139 (by decide) ?_
                  refine lv_istore (lv' := [(5, .int (0 : Int32)), (0, .ref h), (1, .ref (a 0)), (2, .int ((1 : Int32) <<< ((M 0 4) &&& 31))), (3, .int (nI (tkM (M 0) R P k))), (4, .int (nI k))]) hx hb dX6_casts_140 hl (by decide) rfl (fun ls hl => ?_)
                  have lp142 : ∀ (n9 : Nat) (q : Nat) (H : Heap) (locs : List Loc) (ls : Array Slot), pkM (M 0) R P k + 1 - q < n9 → (q ≤ pkM (M 0) R P k) → va_P K.1 vwCl (mw K h a (hrow (hrow M 9 E) 10 (upd (mcR (M 0) R P (M 10) k) k (-1 : Int32)))) H → va_D A (mw K h a (hrow (hrow M 9 E) 10 (upd (mcR (M 0) R P (M 10) k) k (-1 : Int32)))) → va_S A s9.heap H locs → lv_has ls 8 [(0, .ref h), (1, .ref (a 0)), (2, .int ((1 : Int32) <<< ((M 0 4) &&& 31))), (3, .int (nI (tkM (M 0) R P k))), (4, .int (nI k)), (5, .int (nI q))] → W p9 l e9 rm_X6_casts_n s9 m9 av9 below9 meth9 c9 H locs 0 0 Q9 (F0 m9 142 ls []) := by
                    intro n9
                    induction n9 with
                    | zero => intro q H locs ls hmu hq hP hD hS hl; exact absurd hmu (Nat.not_lt_zero _)
                    | succ n9 ih142 =>
                      intro q H locs ls hmu hq hP hD hS hl
                      have hqP := hpk.2.1
                      refine lv_aload_n hx hb dX6_casts_142 rfl (lv_at hl 0 rfl) ?_
                      refine lv_aload_n hx hb dX6_casts_143 rfl (lv_at hl 1 rfl) ?_
                      refine lv_iload_n hx hb dX6_casts_144 rfl (lv_at hl 3 rfl) ?_
                      refine lv_iload hx hb dX6_casts_145 (lv_at hl 5 rfl) ?_
                      refine lv_iload hx hb dX6_casts_147 (lv_at hl 4 rfl) ?_
                      have hPc : va_P K.1 vwCl (mw K h a (hrow (hrow M 9 E) 10 (upd (mcR (M 0) R P (M 10) k) k (-1 : Int32)))) H := hP
                      refine xr_V (As := [.ref (a 0), .int (nI (tkM (M 0) R P k)), .int (nI q), .int (nI k)]) (rest := []) ⟨hx, hb, hml, hown, hts⟩ (c_X6_goesOn_n l K h a (hrow (hrow M 9 E) 10 (upd (mcR (M 0) R P (M 10) k) k (-1 : Int32))) (tkM (M 0) R P k) (by omega) q (by omega) k (by omega)) (cwV 4 hts gX6_casts_X6_goesOn rfl rfl rfl (by decide +kernel) ⟨Nat.le_of_ble_eq_true rfl, Nat.le_of_ble_eq_true rfl⟩) hK hPc 0 6 rfl rfl rfl rfl hl.1 rfl (Nat.le_of_ble_eq_true rfl) (Nat.le_of_ble_eq_true rfl) (Nat.le_of_ble_eq_true rfl) dX6_casts_149 ?_
                      refine lv_aload_n hx hb dX6_casts_152 rfl (lv_at hl 0 rfl) ?_
                      refine va_get (ci := 6) (v := .ref (a 9)) (C := RX6) (T := TX6) (N := 14) hx hb hts hi6 hown hK hP 0 rfl rfl 9 (by decide) lk29 (fun _ h9 => h9) rfl dX6_casts_153 ?_
                      refine lv_iload_n hx hb dX6_casts_156 rfl (lv_at hl 3 rfl) ?_
                      refine xi_ld hx hb hK hP 7 (f := E) rfl (tkM (M 0) R P k) rfl (by omega) (by decide) dX6_casts_157 ?_
                      refine lv_icmp_eq (tgt := 167) hx hb dX6_casts_158 (by decide) (fun c_158 => ?_) (fun c_158 => ?_)
                      · skip
                        have hqe := pk_hit hpk.2.2.2.2.2 hq c_158
                        refine lv_aload_n hx hb dX6_casts_167 rfl (lv_at hl 0 rfl) ?_
                        refine va_get (ci := 6) (v := .ref (a 10)) (C := RX6) (T := TX6) (N := 14) hx hb hts hi6 hown hK hP 0 rfl rfl 10 (by decide) lk32 (fun _ h9 => h9) rfl dX6_casts_168 ?_
                        refine lv_iload hx hb dX6_casts_171 (lv_at hl 4 rfl) ?_
                        refine lv_iload hx hb dX6_casts_173 (lv_at hl 5 rfl) ?_
                        refine xi_st hx hb hK hP hD hS 8 (f := (upd (mcR (M 0) R P (M 10) k) k (-1 : Int32))) rfl k rfl (by omega) (by decide) (mw K h a (hrow (hrow M 9 E) 10 (upd (upd (mcR (M 0) R P (M 10) k) k (-1 : Int32)) k (nI q)))) rfl dX6_casts_175 (fun H locs hP hD hS => ?_)
                        refine lv_iload_n hx hb dX6_casts_176 rfl (lv_at hl 3 rfl) ?_
                        refine lv_iconst (v := (1 : Int32)) hx hb dX6_casts_177 (by decide) ?_
                        refine lv_iload hx hb dX6_casts_178 (lv_at hl 5 rfl) ?_
                        refine lv_ishl hx hb dX6_casts_180 ?_
                        refine lv_ior hx hb dX6_casts_181 ?_
                        refine lv_istore_n (lv' := [(3, .int ((nI (tkM (M 0) R P k)) ||| ((1 : Int32) <<< ((nI q) &&& 31)))), (0, .ref h), (1, .ref (a 0)), (2, .int ((1 : Int32) <<< ((M 0 4) &&& 31))), (4, .int (nI k)), (5, .int (nI q))]) hx hb dX6_casts_182 rfl hl (by decide) rfl (fun ls hl => ?_)
                        refine lv_iinc (v := nI (k + 1)) (lv' := [(4, .int (nI (k + 1))), (3, .int ((nI (tkM (M 0) R P k)) ||| ((1 : Int32) <<< ((nI q) &&& 31)))), (0, .ref h), (1, .ref (a 0)), (2, .int ((1 : Int32) <<< ((M 0 4) &&& 31))), (5, .int (nI q))]) hx hb dX6_casts_183 hl (k := 4) rfl (nI_1 _) (by decide) rfl (fun ls hl => ?_)
                        refine lv_goto (tgt := 107) hx hb dX6_casts_186 (by decide) ?_
                        have eR4 : (upd (upd (mcR (M 0) R P (M 10) k) k (-1 : Int32)) k (nI q)) = mcR (M 0) R P (M 10) (k + 1) := by first | exact mcR_s (csG_stop hst) | (rw [upd_upd]; exact mcR_s (by rw [hqe]; exact hpk.2.2.1.symm))
                        rw [eR4] at hP hD
                        have hP : va_P K.1 vwCl (mw K h a (hrow (hrow M 9 E) 10 (mcR (M 0) R P (M 10) (k + 1)))) H := hP
                        have hD : va_D A (mw K h a (hrow (hrow M 9 E) 10 (mcR (M 0) R P (M 10) (k + 1)))) := hD
                        exact ih107 (k + 1) _ _ _ (by omega) (by first | omega | assumption | first | rfl | (simp [c_11, c_11n, c_111, c_127, c_136, c_136n, c_158]; done) | omega) hP hD hS (lv_cons (lv_at hl 2 rfl) (lv_cons (lv_at hl 3 rfl) (lv_cons (lv_at hl 4 rfl) (lv_cons (lv_is (lv_at hl 1 rfl) (show (nI (tkM (M 0) R P k)) ||| ((1 : Int32) <<< ((nI q) &&& 31)) = nI (tkM (M 0) R P (k + 1)) by first | exact congrArg nI (tkM_stop hst) | exact (nn_or rfl (nn_shl1 rfl rfl (by omega))).trans (congrArg nI (by rw [hqe]; exact hpk.2.2.2.1.symm)))) (lv_cons (lv_at hl 0 rfl) (lv_nil hl))))))
                      · skip
                        refine lv_iinc (v := nI (q + 1)) (lv' := [(5, .int (nI (q + 1))), (0, .ref h), (1, .ref (a 0)), (2, .int ((1 : Int32) <<< ((M 0 4) &&& 31))), (3, .int (nI (tkM (M 0) R P k))), (4, .int (nI k))]) hx hb dX6_casts_161 hl (k := 5) rfl (nI_1 _) (by decide) rfl (fun ls hl => ?_)
                        refine lv_goto (tgt := 142) hx hb dX6_casts_164 (by decide) ?_
                        exact ih142 (q + 1) _ _ _ (by have h9 := pk_step hpk.2.2.2.2.1 hq c_158; omega) (by exact pk_step hpk.2.2.2.2.1 hq c_158) hP hD hS (lv_cons (lv_at hl 1 rfl) (lv_cons (lv_at hl 2 rfl) (lv_cons (lv_at hl 3 rfl) (lv_cons (lv_at hl 4 rfl) (lv_cons (lv_at hl 5 rfl) (lv_cons (lv_at hl 0 rfl) (lv_nil hl)))))))
                  exact lp142 _ 0 _ _ _ (Nat.lt_succ_self _) (by exact Nat.zero_le _) hP hD hS (lv_cons (lv_at hl 1 rfl) (lv_cons (lv_at hl 2 rfl) (lv_cons (lv_at hl 3 rfl) (lv_cons (lv_at hl 4 rfl) (lv_cons (lv_at hl 5 rfl) (lv_cons (lv_is (lv_at hl 0 rfl) (show (0 : Int32) = nI 0 by first | rfl | (simp [c_11, c_11n, c_111, c_127, c_136, c_136n]; done) | omega)) (lv_nil hl)))))))
        have hP : va_P K.1 vwCl (mw K h a (hrow (hrow M 9 E) 10 (M 10))) H := hP
        have hD : va_D A (mw K h a (hrow (hrow M 9 E) 10 (M 10))) := hD
        have eR5 : (M 10) = mcR (M 0) R P (M 10) 0 := by exact mcR_0 _ _ _ _
        rw [eR5] at hP hD
        have hP : va_P K.1 vwCl (mw K h a (hrow (hrow M 9 E) 10 (mcR (M 0) R P (M 10) 0))) H := hP
        have hD : va_D A (mw K h a (hrow (hrow M 9 E) 10 (mcR (M 0) R P (M 10) 0))) := hD
        exact lp107 _ 0 _ _ _ (Nat.lt_succ_self _) (by first | omega | assumption | first | rfl | (simp [c_11, c_11n]; done) | omega) hP hD hS (lv_cons (lv_at hl 2 rfl) (lv_cons (lv_at hl 3 rfl) (lv_cons (lv_at hl 4 rfl) (lv_cons (lv_is (lv_at hl 1 rfl) (show (0 : Int32) = nI (tkM (M 0) R P 0) by (unfold tkM; split; rfl; rw [if_pos (Nat.zero_le R)]; rfl))) (lv_cons (lv_is (lv_at hl 0 rfl) (show (0 : Int32) = nI 0 by rfl)) (lv_nil hl))))))
      · skip
        have c_11n := Int32.not_lt.mp c_11
        have htp : 0 < t := nn_npos hxx c_11
        obtain ⟨u, rfl⟩ : ∃ u, t = u + 1 := ⟨t - 1, by omega⟩
        have hxt : x = nI u := nn_dec hxx htp
        subst hxt
        have hpu := pop_le u
        have hu2 : u < 2 ^ P := by omega
        refine lv_iload_n hx hb dX6_casts_14 rfl (lv_at hl 3 rfl) ?_
        have hPc := P_sub (ws' := []) hP [] rfl
        refine xr_S (As := [.int (nI u)]) (rest := []) ⟨hx, hb, hml, hown, hts⟩ (c_X6_ones l K u (by omega)) (va_cwS 1 hts gX6_casts_X6_ones rfl rfl rfl (by decide +kernel) ⟨Nat.le_of_ble_eq_true rfl, Nat.le_of_ble_eq_true rfl⟩) hK hPc rfl hl.1 rfl (Nat.le_of_ble_eq_true rfl) (Nat.le_of_ble_eq_true rfl) (Nat.le_of_ble_eq_true rfl) dX6_casts_15 ?_
        refine lv_istore (lv' := [(4, .int (nI (pop u))), (0, .ref h), (1, .ref (a 0)), (2, .int ((1 : Int32) <<< ((M 0 4) &&& 31))), (3, .int (nI u))]) hx hb dX6_casts_18 hl (by decide) rfl (fun ls hl => ?_)
        refine lv_iload hx hb dX6_casts_20 (lv_at hl 0 rfl) ?_
        refine lv_aload_n hx hb dX6_casts_22 rfl (lv_at hl 2 rfl) ?_
        refine lv_iconst (v := (3 : Int32)) hx hb dX6_casts_23 (by decide) ?_
        refine xi_ld hx hb hK hP 1 (f := M 0) rfl 3 rfl (by omega) (by decide) dX6_casts_24 ?_
        refine xn_icmp_ne (tgt := 32) hx hb (pop u) R rfl hR0 (by omega) (by omega) dX6_casts_25 (by decide) (fun c_25 => ?_) (fun c_25 => ?_)
        · skip
          refine lv_iconst (v := (-1 : Int32)) hx hb dX6_casts_32 (by decide) ?_
          refine lv_istore (lv' := [(5, .int (-1 : Int32)), (4, .int (nI (pop u))), (0, .ref h), (1, .ref (a 0)), (2, .int ((1 : Int32) <<< ((M 0 4) &&& 31))), (3, .int (nI u))]) hx hb dX6_casts_33 hl (by decide) rfl (fun ls hl => ?_)
          refine lv_iconst (v := (0 : Int32)) hx hb dX6_casts_35 (by decide) ?_
          refine lv_istore (lv' := [(6, .int (0 : Int32)), (5, .int (-1 : Int32)), (4, .int (nI (pop u))), (0, .ref h), (1, .ref (a 0)), (2, .int ((1 : Int32) <<< ((M 0 4) &&& 31))), (3, .int (nI u))]) hx hb dX6_casts_36 hl (by decide) rfl (fun ls hl => ?_)
          have lp38 : ∀ (n9 : Nat) (p : Nat) (H : Heap) (locs : List Loc) (ls : Array Slot), P - p < n9 → (p ≤ P) → va_P K.1 vwCl (mw K h a (hrow M 9 E)) H → va_D A (mw K h a (hrow M 9 E)) → va_S A s9.heap H locs → lv_has ls 8 [(0, .ref h), (1, .ref (a 0)), (2, .int ((1 : Int32) <<< ((M 0 4) &&& 31))), (3, .int (nI u)), (4, .int (nI (pop u))), (5, .int (bsM (M 0) E u R p)), (6, .int (nI p))] → W p9 l e9 rm_X6_casts_n s9 m9 av9 below9 meth9 c9 H locs 0 0 Q9 (F0 m9 38 ls []) := by
            intro n9
            induction n9 with
            | zero => intro p H locs ls hmu hp9 hP hD hS hl; exact absurd hmu (Nat.not_lt_zero _)
            | succ n9 ih38 =>
              intro p H locs ls hmu hp9 hP hD hS hl
              refine lv_iload hx hb dX6_casts_38 (lv_at hl 6 rfl) ?_
              refine lv_aload_n hx hb dX6_casts_40 rfl (lv_at hl 1 rfl) ?_
              refine lv_iconst (v := (4 : Int32)) hx hb dX6_casts_41 (by decide) ?_
              refine xi_ld hx hb hK hP 1 (f := M 0) rfl 4 rfl (by omega) (by decide) dX6_casts_42 ?_
              refine xn_icmp_ge (tgt := 88) hx hb p P rfl hP0 (by omega) (by omega) dX6_casts_43 (by decide) (fun c_43 => ?_) (fun c_43 => ?_)
              · skip
                refine lv_aload_n hx hb dX6_casts_88 rfl (lv_at hl 0 rfl) ?_
                refine va_get (ci := 6) (v := .ref (a 9)) (C := RX6) (T := TX6) (N := 14) hx hb hts hi6 hown hK hP 0 rfl rfl 9 (by decide) lk29 (fun _ h9 => h9) rfl dX6_casts_89 ?_
                refine lv_iload_n hx hb dX6_casts_92 rfl (lv_at hl 3 rfl) ?_
                refine lv_iload hx hb dX6_casts_93 (lv_at hl 5 rfl) ?_
                refine xi_st hx hb hK hP hD hS 7 (f := E) rfl u rfl (by omega) (by decide) (mw K h a (hrow M 9 (upd E u (bsM (M 0) E u R p)))) rfl dX6_casts_95 (fun H locs hP hD hS => ?_)
                refine lv_iinc (v := (nI u) + (-1)) (lv' := [(3, .int ((nI u) + (-1))), (0, .ref h), (1, .ref (a 0)), (2, .int ((1 : Int32) <<< ((M 0 4) &&& 31))), (4, .int (nI (pop u))), (5, .int (bsM (M 0) E u R p)), (6, .int (nI p))]) hx hb dX6_casts_96 hl (k := 3) rfl rfl (by decide) rfl (fun ls hl => ?_)
                refine lv_goto (tgt := 10) hx hb dX6_casts_99 (by decide) ?_
                exact ih10 ((nI u) + (-1)) u (upd E u (bsM (M 0) E u R p)) _ _ _ (by omega) (by exact nn_m1 _) (by omega) (by exact tab_any hT (bs_val hR0b hP0b hok hT hu2 (by omega) (by omega))) hP hD hS (lv_cons (lv_at hl 1 rfl) (lv_cons (lv_at hl 2 rfl) (lv_cons (lv_at hl 3 rfl) (lv_cons (lv_at hl 0 rfl) (lv_nil hl)))))
              · skip
                refine lv_iload hx hb dX6_casts_46 (lv_at hl 4 rfl) ?_
                refine lv_aload_n hx hb dX6_casts_48 rfl (lv_at hl 1 rfl) ?_
                refine lv_iconst (v := (3 : Int32)) hx hb dX6_casts_49 (by decide) ?_
                refine xi_ld hx hb hK hP 1 (f := M 0) rfl 3 rfl (by omega) (by decide) dX6_casts_50 ?_
                refine xn_icmp_ge (tgt := 88) hx hb (pop u) R rfl hR0 (by omega) (by omega) dX6_casts_51 (by decide) (fun c_51 => ?_) (fun c_51 => ?_)
                · skip
                  refine lv_aload_n hx hb dX6_casts_88 rfl (lv_at hl 0 rfl) ?_
                  refine va_get (ci := 6) (v := .ref (a 9)) (C := RX6) (T := TX6) (N := 14) hx hb hts hi6 hown hK hP 0 rfl rfl 9 (by decide) lk29 (fun _ h9 => h9) rfl dX6_casts_89 ?_
                  refine lv_iload_n hx hb dX6_casts_92 rfl (lv_at hl 3 rfl) ?_
                  refine lv_iload hx hb dX6_casts_93 (lv_at hl 5 rfl) ?_
                  refine xi_st hx hb hK hP hD hS 7 (f := E) rfl u rfl (by omega) (by decide) (mw K h a (hrow M 9 (upd E u (bsM (M 0) E u R p)))) rfl dX6_casts_95 (fun H locs hP hD hS => ?_)
                  refine lv_iinc (v := (nI u) + (-1)) (lv' := [(3, .int ((nI u) + (-1))), (0, .ref h), (1, .ref (a 0)), (2, .int ((1 : Int32) <<< ((M 0 4) &&& 31))), (4, .int (nI (pop u))), (5, .int (bsM (M 0) E u R p)), (6, .int (nI p))]) hx hb dX6_casts_96 hl (k := 3) rfl rfl (by decide) rfl (fun ls hl => ?_)
                  refine lv_goto (tgt := 10) hx hb dX6_casts_99 (by decide) ?_
                  exact ih10 ((nI u) + (-1)) u (upd E u (bsM (M 0) E u R p)) _ _ _ (by omega) (by exact nn_m1 _) (by omega) (by exact tab_any hT (bs_val hR0b hP0b hok hT hu2 (by omega) (by omega))) hP hD hS (lv_cons (lv_at hl 1 rfl) (lv_cons (lv_at hl 2 rfl) (lv_cons (lv_at hl 3 rfl) (lv_cons (lv_at hl 0 rfl) (lv_nil hl)))))
                · skip
                  refine lv_aload_n hx hb dX6_casts_54 rfl (lv_at hl 0 rfl) ?_
                  refine lv_aload_n hx hb dX6_casts_55 rfl (lv_at hl 1 rfl) ?_
                  refine lv_iload_n hx hb dX6_casts_56 rfl (lv_at hl 3 rfl) ?_
                  refine lv_iload hx hb dX6_casts_57 (lv_at hl 6 rfl) ?_
                  refine lv_iload hx hb dX6_casts_59 (lv_at hl 4 rfl) ?_
                  have hPc : va_P K.1 vwCl (mw K h a (hrow M 9 E)) H := hP
                  refine xr_V (As := [.ref (a 0), .int (nI u), .int (nI p), .int (nI (pop u))]) (rest := []) ⟨hx, hb, hml, hown, hts⟩ (c_X6_goesOn_n l K h a (hrow M 9 E) u (by omega) p (by omega) (pop u) (by omega)) (cwV 4 hts gX6_casts_X6_goesOn rfl rfl rfl (by decide +kernel) ⟨Nat.le_of_ble_eq_true rfl, Nat.le_of_ble_eq_true rfl⟩) hK hPc 0 6 rfl rfl rfl rfl hl.1 rfl (Nat.le_of_ble_eq_true rfl) (Nat.le_of_ble_eq_true rfl) (Nat.le_of_ble_eq_true rfl) dX6_casts_61 ?_
                  refine lv_istore (lv' := [(7, .int (goM (M 0) ((E)) u p (pop u))), (0, .ref h), (1, .ref (a 0)), (2, .int ((1 : Int32) <<< ((M 0 4) &&& 31))), (3, .int (nI u)), (4, .int (nI (pop u))), (5, .int (bsM (M 0) E u R p)), (6, .int (nI p))]) hx hb dX6_casts_64 hl (by decide) rfl (fun ls hl => ?_)
                  refine lv_iload hx hb dX6_casts_66 (lv_at hl 0 rfl) ?_
                  refine lv_iload hx hb dX6_casts_68 (lv_at hl 6 rfl) ?_
                  refine lv_icmp_le (tgt := 78) hx hb dX6_casts_70 (by decide) (fun c_70 => ?_) (fun c_70 => ?_)
                  · skip
                    have c_70n := Int32.not_lt.mpr c_70
                    refine lv_iload hx hb dX6_casts_78 (lv_at hl 6 rfl) ?_
                    refine lv_istore (lv' := [(5, .int (bsM (M 0) E u R p)), (7, .int (goM (M 0) ((E)) u p (pop u))), (0, .ref h), (1, .ref (a 0)), (2, .int ((1 : Int32) <<< ((M 0 4) &&& 31))), (3, .int (nI u)), (4, .int (nI (pop u))), (6, .int (nI p))]) hx hb dX6_casts_80 hl (by decide) rfl (fun ls hl => ?_)
                    refine lv_iinc (v := nI (p + 1)) (lv' := [(6, .int (nI (p + 1))), (5, .int (bsM (M 0) E u R p)), (7, .int (goM (M 0) ((E)) u p (pop u))), (0, .ref h), (1, .ref (a 0)), (2, .int ((1 : Int32) <<< ((M 0 4) &&& 31))), (3, .int (nI u)), (4, .int (nI (pop u)))]) hx hb dX6_casts_82 hl (k := 7) rfl (nI_1 _) (by decide) rfl (fun ls hl => ?_)
                    refine lv_goto (tgt := 38) hx hb dX6_casts_85 (by decide) ?_
                    exact ih38 (p + 1) _ _ _ (by omega) (by first | omega | assumption | first | rfl | (simp [c_11, c_11n, c_25, c_43, c_51, c_70, c_70n]; done) | omega) hP hD hS (lv_cons (lv_at hl 3 rfl) (lv_cons (lv_at hl 4 rfl) (lv_cons (lv_at hl 5 rfl) (lv_cons (lv_at hl 6 rfl) (lv_cons (lv_at hl 7 rfl) (lv_cons (lv_is (lv_at hl 1 rfl) (show bsM (M 0) E u R p = bsM (M 0) E u R (p + 1) by first | (have z9 := c_70n; simp only [bsM, if_pos c_51, mxF] at z9 ⊢; rw [if_neg z9]; done) | (have z9 := c_70n; simp only [bsM, if_pos c_51, mxF] at z9 ⊢; rw [if_pos z9]; done))) (lv_cons (lv_at hl 0 rfl) (lv_nil hl))))))))
                  · skip
                    have c_70n := Int32.not_le.mp c_70
                    refine lv_iload hx hb dX6_casts_73 (lv_at hl 0 rfl) ?_
                    refine lv_goto (tgt := 80) hx hb dX6_casts_75 (by decide) ?_
                    refine lv_istore (lv' := [(5, .int (goM (M 0) ((E)) u p (pop u))), (7, .int (goM (M 0) ((E)) u p (pop u))), (0, .ref h), (1, .ref (a 0)), (2, .int ((1 : Int32) <<< ((M 0 4) &&& 31))), (3, .int (nI u)), (4, .int (nI (pop u))), (6, .int (nI p))]) hx hb dX6_casts_80 hl (by decide) rfl (fun ls hl => ?_)
                    refine lv_iinc (v := nI (p + 1)) (lv' := [(6, .int (nI (p + 1))), (5, .int (goM (M 0) ((E)) u p (pop u))), (7, .int (goM (M 0) ((E)) u p (pop u))), (0, .ref h), (1, .ref (a 0)), (2, .int ((1 : Int32) <<< ((M 0 4) &&& 31))), (3, .int (nI u)), (4, .int (nI (pop u)))]) hx hb dX6_casts_82 hl (k := 7) rfl (nI_1 _) (by decide) rfl (fun ls hl => ?_)
                    refine lv_goto (tgt := 38) hx hb dX6_casts_85 (by decide) ?_
                    exact ih38 (p + 1) _ _ _ (by omega) (by first | omega | assumption | first | rfl | (simp [c_11, c_11n, c_25, c_43, c_51, c_70, c_70n]; done) | omega) hP hD hS (lv_cons (lv_at hl 3 rfl) (lv_cons (lv_at hl 4 rfl) (lv_cons (lv_at hl 5 rfl) (lv_cons (lv_at hl 6 rfl) (lv_cons (lv_at hl 7 rfl) (lv_cons (lv_is (lv_at hl 1 rfl) (show goM (M 0) ((E)) u p (pop u) = bsM (M 0) E u R (p + 1) by first | (have z9 := c_70n; simp only [bsM, if_pos c_51, mxF] at z9 ⊢; rw [if_neg z9]; done) | (have z9 := c_70n; simp only [bsM, if_pos c_51, mxF] at z9 ⊢; rw [if_pos z9]; done))) (lv_cons (lv_at hl 0 rfl) (lv_nil hl))))))))
          exact lp38 _ 0 _ _ _ (Nat.lt_succ_self _) (by first | omega | assumption | first | rfl | (simp [c_11, c_11n, c_25]; done) | omega) hP hD hS (lv_cons (lv_at hl 3 rfl) (lv_cons (lv_at hl 4 rfl) (lv_cons (lv_at hl 5 rfl) (lv_cons (lv_at hl 6 rfl) (lv_cons (lv_at hl 2 rfl) (lv_cons (lv_is (lv_at hl 1 rfl) (show (-1 : Int32) = bsM (M 0) E u R 0 by (unfold bsM; (repeat' split) <;> first | rfl | omega))) (lv_cons (lv_is (lv_at hl 0 rfl) (show (0 : Int32) = nI 0 by rfl)) (lv_nil hl))))))))
        · skip
          refine lv_iconst (v := (0 : Int32)) hx hb dX6_casts_28 (by decide) ?_
          refine lv_goto (tgt := 33) hx hb dX6_casts_29 (by decide) ?_
          refine lv_istore (lv' := [(5, .int (0 : Int32)), (4, .int (nI (pop u))), (0, .ref h), (1, .ref (a 0)), (2, .int ((1 : Int32) <<< ((M 0 4) &&& 31))), (3, .int (nI u))]) hx hb dX6_casts_33 hl (by decide) rfl (fun ls hl => ?_)
          refine lv_iconst (v := (0 : Int32)) hx hb dX6_casts_35 (by decide) ?_
          refine lv_istore (lv' := [(6, .int (0 : Int32)), (5, .int (0 : Int32)), (4, .int (nI (pop u))), (0, .ref h), (1, .ref (a 0)), (2, .int ((1 : Int32) <<< ((M 0 4) &&& 31))), (3, .int (nI u))]) hx hb dX6_casts_36 hl (by decide) rfl (fun ls hl => ?_)
          have lp38 : ∀ (n9 : Nat) (p : Nat) (H : Heap) (locs : List Loc) (ls : Array Slot), P - p < n9 → (p ≤ P) → va_P K.1 vwCl (mw K h a (hrow M 9 E)) H → va_D A (mw K h a (hrow M 9 E)) → va_S A s9.heap H locs → lv_has ls 8 [(0, .ref h), (1, .ref (a 0)), (2, .int ((1 : Int32) <<< ((M 0 4) &&& 31))), (3, .int (nI u)), (4, .int (nI (pop u))), (5, .int (bsM (M 0) E u R p)), (6, .int (nI p))] → W p9 l e9 rm_X6_casts_n s9 m9 av9 below9 meth9 c9 H locs 0 0 Q9 (F0 m9 38 ls []) := by
            intro n9
            induction n9 with
            | zero => intro p H locs ls hmu hp9 hP hD hS hl; exact absurd hmu (Nat.not_lt_zero _)
            | succ n9 ih38 =>
              intro p H locs ls hmu hp9 hP hD hS hl
              refine lv_iload hx hb dX6_casts_38 (lv_at hl 6 rfl) ?_
              refine lv_aload_n hx hb dX6_casts_40 rfl (lv_at hl 1 rfl) ?_
              refine lv_iconst (v := (4 : Int32)) hx hb dX6_casts_41 (by decide) ?_
              refine xi_ld hx hb hK hP 1 (f := M 0) rfl 4 rfl (by omega) (by decide) dX6_casts_42 ?_
              refine xn_icmp_ge (tgt := 88) hx hb p P rfl hP0 (by omega) (by omega) dX6_casts_43 (by decide) (fun c_43 => ?_) (fun c_43 => ?_)
              · skip
                refine lv_aload_n hx hb dX6_casts_88 rfl (lv_at hl 0 rfl) ?_
                refine va_get (ci := 6) (v := .ref (a 9)) (C := RX6) (T := TX6) (N := 14) hx hb hts hi6 hown hK hP 0 rfl rfl 9 (by decide) lk29 (fun _ h9 => h9) rfl dX6_casts_89 ?_
                refine lv_iload_n hx hb dX6_casts_92 rfl (lv_at hl 3 rfl) ?_
                refine lv_iload hx hb dX6_casts_93 (lv_at hl 5 rfl) ?_
                refine xi_st hx hb hK hP hD hS 7 (f := E) rfl u rfl (by omega) (by decide) (mw K h a (hrow M 9 (upd E u (bsM (M 0) E u R p)))) rfl dX6_casts_95 (fun H locs hP hD hS => ?_)
                refine lv_iinc (v := (nI u) + (-1)) (lv' := [(3, .int ((nI u) + (-1))), (0, .ref h), (1, .ref (a 0)), (2, .int ((1 : Int32) <<< ((M 0 4) &&& 31))), (4, .int (nI (pop u))), (5, .int (bsM (M 0) E u R p)), (6, .int (nI p))]) hx hb dX6_casts_96 hl (k := 3) rfl rfl (by decide) rfl (fun ls hl => ?_)
                refine lv_goto (tgt := 10) hx hb dX6_casts_99 (by decide) ?_
                exact ih10 ((nI u) + (-1)) u (upd E u (bsM (M 0) E u R p)) _ _ _ (by omega) (by exact nn_m1 _) (by omega) (by exact tab_any hT (bs_val hR0b hP0b hok hT hu2 (by omega) (by omega))) hP hD hS (lv_cons (lv_at hl 1 rfl) (lv_cons (lv_at hl 2 rfl) (lv_cons (lv_at hl 3 rfl) (lv_cons (lv_at hl 0 rfl) (lv_nil hl)))))
              · skip
                refine lv_iload hx hb dX6_casts_46 (lv_at hl 4 rfl) ?_
                refine lv_aload_n hx hb dX6_casts_48 rfl (lv_at hl 1 rfl) ?_
                refine lv_iconst (v := (3 : Int32)) hx hb dX6_casts_49 (by decide) ?_
                refine xi_ld hx hb hK hP 1 (f := M 0) rfl 3 rfl (by omega) (by decide) dX6_casts_50 ?_
                refine xn_icmp_ge (tgt := 88) hx hb (pop u) R rfl hR0 (by omega) (by omega) dX6_casts_51 (by decide) (fun c_51 => ?_) (fun c_51 => ?_)
                · skip
                  refine lv_aload_n hx hb dX6_casts_88 rfl (lv_at hl 0 rfl) ?_
                  refine va_get (ci := 6) (v := .ref (a 9)) (C := RX6) (T := TX6) (N := 14) hx hb hts hi6 hown hK hP 0 rfl rfl 9 (by decide) lk29 (fun _ h9 => h9) rfl dX6_casts_89 ?_
                  refine lv_iload_n hx hb dX6_casts_92 rfl (lv_at hl 3 rfl) ?_
                  refine lv_iload hx hb dX6_casts_93 (lv_at hl 5 rfl) ?_
                  refine xi_st hx hb hK hP hD hS 7 (f := E) rfl u rfl (by omega) (by decide) (mw K h a (hrow M 9 (upd E u (bsM (M 0) E u R p)))) rfl dX6_casts_95 (fun H locs hP hD hS => ?_)
                  refine lv_iinc (v := (nI u) + (-1)) (lv' := [(3, .int ((nI u) + (-1))), (0, .ref h), (1, .ref (a 0)), (2, .int ((1 : Int32) <<< ((M 0 4) &&& 31))), (4, .int (nI (pop u))), (5, .int (bsM (M 0) E u R p)), (6, .int (nI p))]) hx hb dX6_casts_96 hl (k := 3) rfl rfl (by decide) rfl (fun ls hl => ?_)
                  refine lv_goto (tgt := 10) hx hb dX6_casts_99 (by decide) ?_
                  exact ih10 ((nI u) + (-1)) u (upd E u (bsM (M 0) E u R p)) _ _ _ (by omega) (by exact nn_m1 _) (by omega) (by exact tab_any hT (bs_val hR0b hP0b hok hT hu2 (by omega) (by omega))) hP hD hS (lv_cons (lv_at hl 1 rfl) (lv_cons (lv_at hl 2 rfl) (lv_cons (lv_at hl 3 rfl) (lv_cons (lv_at hl 0 rfl) (lv_nil hl)))))
                · skip
                  refine lv_aload_n hx hb dX6_casts_54 rfl (lv_at hl 0 rfl) ?_
                  refine lv_aload_n hx hb dX6_casts_55 rfl (lv_at hl 1 rfl) ?_
                  refine lv_iload_n hx hb dX6_casts_56 rfl (lv_at hl 3 rfl) ?_
                  refine lv_iload hx hb dX6_casts_57 (lv_at hl 6 rfl) ?_
                  refine lv_iload hx hb dX6_casts_59 (lv_at hl 4 rfl) ?_
                  have hPc : va_P K.1 vwCl (mw K h a (hrow M 9 E)) H := hP
                  refine xr_V (As := [.ref (a 0), .int (nI u), .int (nI p), .int (nI (pop u))]) (rest := []) ⟨hx, hb, hml, hown, hts⟩ (c_X6_goesOn_n l K h a (hrow M 9 E) u (by omega) p (by omega) (pop u) (by omega)) (cwV 4 hts gX6_casts_X6_goesOn rfl rfl rfl (by decide +kernel) ⟨Nat.le_of_ble_eq_true rfl, Nat.le_of_ble_eq_true rfl⟩) hK hPc 0 6 rfl rfl rfl rfl hl.1 rfl (Nat.le_of_ble_eq_true rfl) (Nat.le_of_ble_eq_true rfl) (Nat.le_of_ble_eq_true rfl) dX6_casts_61 ?_
                  refine lv_istore (lv' := [(7, .int (goM (M 0) ((E)) u p (pop u))), (0, .ref h), (1, .ref (a 0)), (2, .int ((1 : Int32) <<< ((M 0 4) &&& 31))), (3, .int (nI u)), (4, .int (nI (pop u))), (5, .int (bsM (M 0) E u R p)), (6, .int (nI p))]) hx hb dX6_casts_64 hl (by decide) rfl (fun ls hl => ?_)
                  refine lv_iload hx hb dX6_casts_66 (lv_at hl 0 rfl) ?_
                  refine lv_iload hx hb dX6_casts_68 (lv_at hl 6 rfl) ?_
                  refine lv_icmp_le (tgt := 78) hx hb dX6_casts_70 (by decide) (fun c_70 => ?_) (fun c_70 => ?_)
                  · skip
                    have c_70n := Int32.not_lt.mpr c_70
                    refine lv_iload hx hb dX6_casts_78 (lv_at hl 6 rfl) ?_
                    refine lv_istore (lv' := [(5, .int (bsM (M 0) E u R p)), (7, .int (goM (M 0) ((E)) u p (pop u))), (0, .ref h), (1, .ref (a 0)), (2, .int ((1 : Int32) <<< ((M 0 4) &&& 31))), (3, .int (nI u)), (4, .int (nI (pop u))), (6, .int (nI p))]) hx hb dX6_casts_80 hl (by decide) rfl (fun ls hl => ?_)
                    refine lv_iinc (v := nI (p + 1)) (lv' := [(6, .int (nI (p + 1))), (5, .int (bsM (M 0) E u R p)), (7, .int (goM (M 0) ((E)) u p (pop u))), (0, .ref h), (1, .ref (a 0)), (2, .int ((1 : Int32) <<< ((M 0 4) &&& 31))), (3, .int (nI u)), (4, .int (nI (pop u)))]) hx hb dX6_casts_82 hl (k := 7) rfl (nI_1 _) (by decide) rfl (fun ls hl => ?_)
                    refine lv_goto (tgt := 38) hx hb dX6_casts_85 (by decide) ?_
                    exact ih38 (p + 1) _ _ _ (by omega) (by first | omega | assumption | first | rfl | (simp [c_11, c_11n, c_25, c_43, c_51, c_70, c_70n]; done) | omega) hP hD hS (lv_cons (lv_at hl 3 rfl) (lv_cons (lv_at hl 4 rfl) (lv_cons (lv_at hl 5 rfl) (lv_cons (lv_at hl 6 rfl) (lv_cons (lv_at hl 7 rfl) (lv_cons (lv_is (lv_at hl 1 rfl) (show bsM (M 0) E u R p = bsM (M 0) E u R (p + 1) by first | (have z9 := c_70n; simp only [bsM, if_pos c_51, mxF] at z9 ⊢; rw [if_neg z9]; done) | (have z9 := c_70n; simp only [bsM, if_pos c_51, mxF] at z9 ⊢; rw [if_pos z9]; done))) (lv_cons (lv_at hl 0 rfl) (lv_nil hl))))))))
                  · skip
                    have c_70n := Int32.not_le.mp c_70
                    refine lv_iload hx hb dX6_casts_73 (lv_at hl 0 rfl) ?_
                    refine lv_goto (tgt := 80) hx hb dX6_casts_75 (by decide) ?_
                    refine lv_istore (lv' := [(5, .int (goM (M 0) ((E)) u p (pop u))), (7, .int (goM (M 0) ((E)) u p (pop u))), (0, .ref h), (1, .ref (a 0)), (2, .int ((1 : Int32) <<< ((M 0 4) &&& 31))), (3, .int (nI u)), (4, .int (nI (pop u))), (6, .int (nI p))]) hx hb dX6_casts_80 hl (by decide) rfl (fun ls hl => ?_)
                    refine lv_iinc (v := nI (p + 1)) (lv' := [(6, .int (nI (p + 1))), (5, .int (goM (M 0) ((E)) u p (pop u))), (7, .int (goM (M 0) ((E)) u p (pop u))), (0, .ref h), (1, .ref (a 0)), (2, .int ((1 : Int32) <<< ((M 0 4) &&& 31))), (3, .int (nI u)), (4, .int (nI (pop u)))]) hx hb dX6_casts_82 hl (k := 7) rfl (nI_1 _) (by decide) rfl (fun ls hl => ?_)
                    refine lv_goto (tgt := 38) hx hb dX6_casts_85 (by decide) ?_
                    exact ih38 (p + 1) _ _ _ (by omega) (by first | omega | assumption | first | rfl | (simp [c_11, c_11n, c_25, c_43, c_51, c_70, c_70n]; done) | omega) hP hD hS (lv_cons (lv_at hl 3 rfl) (lv_cons (lv_at hl 4 rfl) (lv_cons (lv_at hl 5 rfl) (lv_cons (lv_at hl 6 rfl) (lv_cons (lv_at hl 7 rfl) (lv_cons (lv_is (lv_at hl 1 rfl) (show goM (M 0) ((E)) u p (pop u) = bsM (M 0) E u R (p + 1) by first | (have z9 := c_70n; simp only [bsM, if_pos c_51, mxF] at z9 ⊢; rw [if_neg z9]; done) | (have z9 := c_70n; simp only [bsM, if_pos c_51, mxF] at z9 ⊢; rw [if_pos z9]; done))) (lv_cons (lv_at hl 0 rfl) (lv_nil hl))))))))
          exact lp38 _ 0 _ _ _ (Nat.lt_succ_self _) (by first | omega | assumption | first | rfl | (simp [c_11, c_11n, c_25]; done) | omega) hP hD hS (lv_cons (lv_at hl 3 rfl) (lv_cons (lv_at hl 4 rfl) (lv_cons (lv_at hl 5 rfl) (lv_cons (lv_at hl 6 rfl) (lv_cons (lv_at hl 2 rfl) (lv_cons (lv_is (lv_at hl 1 rfl) (show (0 : Int32) = bsM (M 0) E u R 0 by (unfold bsM; (repeat' split) <;> first | rfl | omega))) (lv_cons (lv_is (lv_at hl 0 rfl) (show (0 : Int32) = nI 0 by rfl)) (lv_nil hl))))))))
  have hP : va_P K.1 vwCl (mw K h a (hrow M 9 (M 9))) H := hP
  have hD : va_D A (mw K h a (hrow M 9 (M 9))) := hD
  exact lp10 _ (((1 : Int32) <<< ((M 0 4) &&& 31)) - (1 : Int32)) (2 ^ P) (M 9) _ _ _ (Nat.lt_succ_self _) (by rw [nn_shl1 (rfl : (1 : Int32) = nI 1) hP0 (by omega), Int32.sub_add_cancel]) (by exact Nat.le_refl _) (by intro t h1 h2; omega) hP hD hS (lv_cons (lv_at hl 2 rfl) (lv_cons (lv_at hl 3 rfl) (lv_cons (lv_at hl 1 rfl) (lv_cons (lv_at hl 0 rfl) (lv_nil hl)))))

abbrev rm_X6_casts_t : Room := { frames := 3, cells := 0, slots := 0, locals := 69 }
set_option maxHeartbeats 4000000 in
set_option maxRecDepth 100000 in
theorem c_X6_casts_t (l : Launch) (K : KX) (h : Nat) (a : Nat → Nat) (M : HV) (R : Nat) (hR0 : M 1 3 = nI R) (hR0b : R ≤ 6) (P : Nat) (hP0 : M 1 4 = nI P) (hP0b : P ≤ 10) (hok : mOK (M 1) R P) (sz : Nat) : Met l yX6_casts wsX6_casts rm_X6_casts_t (va_Pc [.ref h, .ref (a 1)] (xPre K (mw K h a M) sz)) (va_Qi (fun (r9 : Int32) (u9 : Nat → Int32) => r9 = mStr (M 1) R P) (fun u9 t => xPost K (va_A (mw K h a M) sz) (mw K h a (hrow (hrow M 9 u9) 10 (mcR (M 1) R P (M 10) 6))) t) (va_A (mw K h a M) sz)) 0 0 (va_A (mw K h a M) sz) := by
  refine xw_starti (cc := cX6_casts) (maxL := 8) (by decide) rfl (Nat.le_of_ble_eq_true rfl) ?_
  intro p9 e9 s9 m9 below9 meth9 c9 H locs ls A av9 Q9 hx hb hlocks hml hname hts hown hK hP hD hS hA hsz hend hl
  have hown : s9.vm.findClass RX6 = some m9.cls := hown
  have hl : lv_has ls 8 [(0, .ref h), (1, .ref (a 1))] := hl
  have hi6 : ∀ w ∈ u_ws RX6 TX6 14, w ∈ wsX6_casts := by decide +kernel
  have lk29 := hts (.fieldLink RX6 29 "StandInsModel" "reach" "[I") (by decide +kernel)
  have lk32 := hts (.fieldLink RX6 32 "StandInsModel" "cast" "[I") (by decide +kernel)
  have hpw := pw_le hP0b
  refine lv_iconst (v := (1 : Int32)) hx hb dX6_casts_0 (by decide) ?_
  refine lv_aload_n hx hb dX6_casts_1 rfl (lv_at hl 1 rfl) ?_
  refine lv_iconst (v := (4 : Int32)) hx hb dX6_casts_2 (by decide) ?_
  refine xi_ld hx hb hK hP 2 (f := M 1) rfl 4 rfl (by omega) (by decide) dX6_casts_3 ?_
  refine lv_ishl hx hb dX6_casts_4 ?_
  refine lv_istore_n (lv' := [(2, .int ((1 : Int32) <<< ((M 1 4) &&& 31))), (0, .ref h), (1, .ref (a 1))]) hx hb dX6_casts_5 rfl hl (by decide) rfl (fun ls hl => ?_)
  refine lv_iload_n hx hb dX6_casts_6 rfl (lv_at hl 0 rfl) ?_
  refine lv_iconst (v := (1 : Int32)) hx hb dX6_casts_7 (by decide) ?_
  refine lv_isub hx hb dX6_casts_8 ?_
  refine lv_istore_n (lv' := [(3, .int (((1 : Int32) <<< ((M 1 4) &&& 31)) - (1 : Int32))), (2, .int ((1 : Int32) <<< ((M 1 4) &&& 31))), (0, .ref h), (1, .ref (a 1))]) hx hb dX6_casts_9 rfl hl (by decide) rfl (fun ls hl => ?_)
  have lp10 : ∀ (n9 : Nat) (x : Int32) (t : Nat) (E : Nat → Int32) (H : Heap) (locs : List Loc) (ls : Array Slot), t < n9 → (x + 1 = nI t) → (t ≤ 2 ^ P) → (tabOK (wM (M 1)) R P (2 ^ P - 1) E t) → va_P K.1 vwCl (mw K h a (hrow M 9 E)) H → va_D A (mw K h a (hrow M 9 E)) → va_S A s9.heap H locs → lv_has ls 8 [(0, .ref h), (1, .ref (a 1)), (2, .int ((1 : Int32) <<< ((M 1 4) &&& 31))), (3, .int x)] → W p9 l e9 rm_X6_casts_t s9 m9 av9 below9 meth9 c9 H locs 0 0 Q9 (F0 m9 10 ls []) := by
    intro n9
    induction n9 with
    | zero => intro x t E H locs ls hmu hxx ht hT hP hD hS hl; exact absurd hmu (Nat.not_lt_zero _)
    | succ n9 ih10 =>
      intro x t E H locs ls hmu hxx ht hT hP hD hS hl
      refine lv_iload_n hx hb dX6_casts_10 rfl (lv_at hl 3 rfl) ?_
      refine lv_if_lt (tgt := 102) hx hb dX6_casts_11 (by decide) (fun c_11 => ?_) (fun c_11 => ?_)
      · skip
        have c_11n := Int32.not_le.mpr c_11
        have ht0 : t = 0 := nn_neg hxx (by omega) c_11
        subst ht0
        have hE0 := tab_0 hT
        refine lv_iconst (v := (0 : Int32)) hx hb dX6_casts_102 (by decide) ?_
        refine lv_istore_n (lv' := [(3, .int (0 : Int32)), (0, .ref h), (1, .ref (a 1)), (2, .int ((1 : Int32) <<< ((M 1 4) &&& 31)))]) hx hb dX6_casts_103 rfl hl (by decide) rfl (fun ls hl => ?_)
        refine lv_iconst (v := (0 : Int32)) hx hb dX6_casts_104 (by decide) ?_
        refine lv_istore (lv' := [(4, .int (0 : Int32)), (3, .int (0 : Int32)), (0, .ref h), (1, .ref (a 1)), (2, .int ((1 : Int32) <<< ((M 1 4) &&& 31)))]) hx hb dX6_casts_105 hl (by decide) rfl (fun ls hl => ?_)
        have lp107 : ∀ (n9 : Nat) (k : Nat) (H : Heap) (locs : List Loc) (ls : Array Slot), 6 - k < n9 → (k ≤ 6) → va_P K.1 vwCl (mw K h a (hrow (hrow M 9 E) 10 (mcR (M 1) R P (M 10) k))) H → va_D A (mw K h a (hrow (hrow M 9 E) 10 (mcR (M 1) R P (M 10) k))) → va_S A s9.heap H locs → lv_has ls 8 [(0, .ref h), (1, .ref (a 1)), (2, .int ((1 : Int32) <<< ((M 1 4) &&& 31))), (3, .int (nI (tkM (M 1) R P k))), (4, .int (nI k))] → W p9 l e9 rm_X6_casts_t s9 m9 av9 below9 meth9 c9 H locs 0 0 Q9 (F0 m9 107 ls []) := by
          intro n9
          induction n9 with
          | zero => intro k H locs ls hmu hk hP hD hS hl; exact absurd hmu (Nat.not_lt_zero _)
          | succ n9 ih107 =>
            intro k H locs ls hmu hk hP hD hS hl
            have htk := tkM_lt (N := (M 1)) (R := R) hP0b k
            refine lv_iload hx hb dX6_casts_107 (lv_at hl 4 rfl) ?_
            refine lv_bipush (v := (6 : Int32)) hx hb dX6_casts_109 (by decide) ?_
            refine xn_icmp_ge (tgt := 189) hx hb k 6 rfl rfl (by omega) (by decide) dX6_casts_111 (by decide) (fun c_111 => ?_) (fun c_111 => ?_)
            · skip
              refine lv_aload_n hx hb dX6_casts_189 rfl (lv_at hl 0 rfl) ?_
              refine va_get (ci := 6) (v := .ref (a 9)) (C := RX6) (T := TX6) (N := 14) hx hb hts hi6 hown hK hP 0 rfl rfl 9 (by decide) lk29 (fun _ h9 => h9) rfl dX6_casts_190 ?_
              refine lv_iconst (v := (0 : Int32)) hx hb dX6_casts_193 (by decide) ?_
              refine xi_ld hx hb hK hP 7 (f := E) rfl 0 rfl (by omega) (by decide) dX6_casts_194 ?_
              have eR1 : (mcR (M 1) R P (M 10) k) = mcR (M 1) R P (M 10) 6 := by rw [show k = 6 by omega]
              rw [eR1] at hP hD
              exact hend _ _ _ _ _ _ _ E hP hD hS (Nat.le_of_ble_eq_true rfl) (Nat.le_of_ble_eq_true rfl) (by exact hE0) dX6_casts_195
            · skip
              refine lv_aload_n hx hb dX6_casts_114 rfl (lv_at hl 0 rfl) ?_
              refine va_get (ci := 6) (v := .ref (a 10)) (C := RX6) (T := TX6) (N := 14) hx hb hts hi6 hown hK hP 0 rfl rfl 10 (by decide) lk32 (fun _ h9 => h9) rfl dX6_casts_115 ?_
              refine lv_iload hx hb dX6_casts_118 (lv_at hl 4 rfl) ?_
              refine lv_iconst (v := (-1 : Int32)) hx hb dX6_casts_120 (by decide) ?_
              refine xi_st hx hb hK hP hD hS 8 (f := (mcR (M 1) R P (M 10) k)) rfl k rfl (by omega) (by decide) (mw K h a (hrow (hrow M 9 E) 10 (upd (mcR (M 1) R P (M 10) k) k (-1 : Int32)))) rfl dX6_casts_121 (fun H locs hP hD hS => ?_)
              refine lv_iload hx hb dX6_casts_122 (lv_at hl 4 rfl) ?_
              refine lv_aload_n hx hb dX6_casts_124 rfl (lv_at hl 1 rfl) ?_
              refine lv_iconst (v := (3 : Int32)) hx hb dX6_casts_125 (by decide) ?_
              refine xi_ld hx hb hK hP 2 (f := M 1) rfl 3 rfl (by omega) (by decide) dX6_casts_126 ?_
              refine xn_icmp_ge (tgt := 183) hx hb k R rfl hR0 (by omega) (by omega) dX6_casts_127 (by decide) (fun c_127 => ?_) (fun c_127 => ?_)
              · skip
                have hst : R ≤ k ∨ mStr (M 1) R P = -1 := Or.inl c_127
                refine lv_iinc (v := nI (k + 1)) (lv' := [(4, .int (nI (k + 1))), (0, .ref h), (1, .ref (a 1)), (2, .int ((1 : Int32) <<< ((M 1 4) &&& 31))), (3, .int (nI (tkM (M 1) R P k)))]) hx hb dX6_casts_183 hl (k := 4) rfl (nI_1 _) (by decide) rfl (fun ls hl => ?_)
                refine lv_goto (tgt := 107) hx hb dX6_casts_186 (by decide) ?_
                have eR2 : (upd (mcR (M 1) R P (M 10) k) k (-1 : Int32)) = mcR (M 1) R P (M 10) (k + 1) := by first | exact mcR_s (csG_stop hst) | (rw [upd_upd]; exact mcR_s (by rw [hqe]; exact hpk.2.2.1.symm))
                rw [eR2] at hP hD
                have hP : va_P K.1 vwCl (mw K h a (hrow (hrow M 9 E) 10 (mcR (M 1) R P (M 10) (k + 1)))) H := hP
                have hD : va_D A (mw K h a (hrow (hrow M 9 E) 10 (mcR (M 1) R P (M 10) (k + 1)))) := hD
                exact ih107 (k + 1) _ _ _ (by omega) (by first | omega | assumption | first | rfl | (simp [c_11, c_11n, c_111, c_127]; done) | omega) hP hD hS (lv_cons (lv_at hl 1 rfl) (lv_cons (lv_at hl 2 rfl) (lv_cons (lv_at hl 3 rfl) (lv_cons (lv_is (lv_at hl 4 rfl) (show nI (tkM (M 1) R P k) = nI (tkM (M 1) R P (k + 1)) by first | exact congrArg nI (tkM_stop hst) | exact (nn_or rfl (nn_shl1 rfl rfl (by omega))).trans (congrArg nI (by rw [hqe]; exact hpk.2.2.2.1.symm)))) (lv_cons (lv_at hl 0 rfl) (lv_nil hl))))))
              · skip
                refine lv_aload_n hx hb dX6_casts_130 rfl (lv_at hl 0 rfl) ?_
                refine va_get (ci := 6) (v := .ref (a 9)) (C := RX6) (T := TX6) (N := 14) hx hb hts hi6 hown hK hP 0 rfl rfl 9 (by decide) lk29 (fun _ h9 => h9) rfl dX6_casts_131 ?_
                refine lv_iconst (v := (0 : Int32)) hx hb dX6_casts_134 (by decide) ?_
                refine xi_ld hx hb hK hP 7 (f := E) rfl 0 rfl (by omega) (by decide) dX6_casts_135 ?_
                refine lv_if_lt (tgt := 183) hx hb dX6_casts_136 (by decide) (fun c_136 => ?_) (fun c_136 => ?_)
                · skip
                  have c_136n := Int32.not_le.mpr c_136
                  have hst : R ≤ k ∨ mStr (M 1) R P = -1 := Or.inr ((mStr_neg hok hR0b).mp (show dpS (wM (M 1)) R P R 0 < 0 from hE0 ▸ c_136))
                  refine lv_iinc (v := nI (k + 1)) (lv' := [(4, .int (nI (k + 1))), (0, .ref h), (1, .ref (a 1)), (2, .int ((1 : Int32) <<< ((M 1 4) &&& 31))), (3, .int (nI (tkM (M 1) R P k)))]) hx hb dX6_casts_183 hl (k := 4) rfl (nI_1 _) (by decide) rfl (fun ls hl => ?_)
                  refine lv_goto (tgt := 107) hx hb dX6_casts_186 (by decide) ?_
                  have eR3 : (upd (mcR (M 1) R P (M 10) k) k (-1 : Int32)) = mcR (M 1) R P (M 10) (k + 1) := by first | exact mcR_s (csG_stop hst) | (rw [upd_upd]; exact mcR_s (by rw [hqe]; exact hpk.2.2.1.symm))
                  rw [eR3] at hP hD
                  have hP : va_P K.1 vwCl (mw K h a (hrow (hrow M 9 E) 10 (mcR (M 1) R P (M 10) (k + 1)))) H := hP
                  have hD : va_D A (mw K h a (hrow (hrow M 9 E) 10 (mcR (M 1) R P (M 10) (k + 1)))) := hD
                  exact ih107 (k + 1) _ _ _ (by omega) (by first | omega | assumption | first | rfl | (simp [c_11, c_11n, c_111, c_127, c_136, c_136n]; done) | omega) hP hD hS (lv_cons (lv_at hl 1 rfl) (lv_cons (lv_at hl 2 rfl) (lv_cons (lv_at hl 3 rfl) (lv_cons (lv_is (lv_at hl 4 rfl) (show nI (tkM (M 1) R P k) = nI (tkM (M 1) R P (k + 1)) by first | exact congrArg nI (tkM_stop hst) | exact (nn_or rfl (nn_shl1 rfl rfl (by omega))).trans (congrArg nI (by rw [hqe]; exact hpk.2.2.2.1.symm)))) (lv_cons (lv_at hl 0 rfl) (lv_nil hl))))))
                · skip
                  have c_136n := Int32.not_lt.mp c_136
                  have hpk := pkM_spec (k := k) hR0b hP0b hok hT (fun z => c_136 (hE0 ▸ (mStr_neg hok hR0b).mpr z)) c_127
                  refine lv_iconst (v := (0 : Int32)) hx hb dX6_casts_139 (by decide) ?_
                  refine lv_istore (lv' := [(5, .int (0 : Int32)), (0, .ref h), (1, .ref (a 1)), (2, .int ((1 : Int32) <<< ((M 1 4) &&& 31))), (3, .int (nI (tkM (M 1) R P k))), (4, .int (nI k))]) hx hb dX6_casts_140 hl (by decide) rfl (fun ls hl => ?_)
                  have lp142 : ∀ (n9 : Nat) (q : Nat) (H : Heap) (locs : List Loc) (ls : Array Slot), pkM (M 1) R P k + 1 - q < n9 → (q ≤ pkM (M 1) R P k) → va_P K.1 vwCl (mw K h a (hrow (hrow M 9 E) 10 (upd (mcR (M 1) R P (M 10) k) k (-1 : Int32)))) H → va_D A (mw K h a (hrow (hrow M 9 E) 10 (upd (mcR (M 1) R P (M 10) k) k (-1 : Int32)))) → va_S A s9.heap H locs → lv_has ls 8 [(0, .ref h), (1, .ref (a 1)), (2, .int ((1 : Int32) <<< ((M 1 4) &&& 31))), (3, .int (nI (tkM (M 1) R P k))), (4, .int (nI k)), (5, .int (nI q))] → W p9 l e9 rm_X6_casts_t s9 m9 av9 below9 meth9 c9 H locs 0 0 Q9 (F0 m9 142 ls []) := by
                    intro n9
                    induction n9 with
                    | zero => intro q H locs ls hmu hq hP hD hS hl; exact absurd hmu (Nat.not_lt_zero _)
                    | succ n9 ih142 =>
                      intro q H locs ls hmu hq hP hD hS hl
                      have hqP := hpk.2.1
                      refine lv_aload_n hx hb dX6_casts_142 rfl (lv_at hl 0 rfl) ?_
                      refine lv_aload_n hx hb dX6_casts_143 rfl (lv_at hl 1 rfl) ?_
                      refine lv_iload_n hx hb dX6_casts_144 rfl (lv_at hl 3 rfl) ?_
                      refine lv_iload hx hb dX6_casts_145 (lv_at hl 5 rfl) ?_
                      refine lv_iload hx hb dX6_casts_147 (lv_at hl 4 rfl) ?_
                      have hPc : va_P K.1 vwCl (mw K h a (hrow (hrow M 9 E) 10 (upd (mcR (M 1) R P (M 10) k) k (-1 : Int32)))) H := hP
                      refine xr_V (As := [.ref (a 1), .int (nI (tkM (M 1) R P k)), .int (nI q), .int (nI k)]) (rest := []) ⟨hx, hb, hml, hown, hts⟩ (c_X6_goesOn_t l K h a (hrow (hrow M 9 E) 10 (upd (mcR (M 1) R P (M 10) k) k (-1 : Int32))) (tkM (M 1) R P k) (by omega) q (by omega) k (by omega)) (cwV 4 hts gX6_casts_X6_goesOn rfl rfl rfl (by decide +kernel) ⟨Nat.le_of_ble_eq_true rfl, Nat.le_of_ble_eq_true rfl⟩) hK hPc 0 6 rfl rfl rfl rfl hl.1 rfl (Nat.le_of_ble_eq_true rfl) (Nat.le_of_ble_eq_true rfl) (Nat.le_of_ble_eq_true rfl) dX6_casts_149 ?_
                      refine lv_aload_n hx hb dX6_casts_152 rfl (lv_at hl 0 rfl) ?_
                      refine va_get (ci := 6) (v := .ref (a 9)) (C := RX6) (T := TX6) (N := 14) hx hb hts hi6 hown hK hP 0 rfl rfl 9 (by decide) lk29 (fun _ h9 => h9) rfl dX6_casts_153 ?_
                      refine lv_iload_n hx hb dX6_casts_156 rfl (lv_at hl 3 rfl) ?_
                      refine xi_ld hx hb hK hP 7 (f := E) rfl (tkM (M 1) R P k) rfl (by omega) (by decide) dX6_casts_157 ?_
                      refine lv_icmp_eq (tgt := 167) hx hb dX6_casts_158 (by decide) (fun c_158 => ?_) (fun c_158 => ?_)
                      · skip
                        have hqe := pk_hit hpk.2.2.2.2.2 hq c_158
                        refine lv_aload_n hx hb dX6_casts_167 rfl (lv_at hl 0 rfl) ?_
                        refine va_get (ci := 6) (v := .ref (a 10)) (C := RX6) (T := TX6) (N := 14) hx hb hts hi6 hown hK hP 0 rfl rfl 10 (by decide) lk32 (fun _ h9 => h9) rfl dX6_casts_168 ?_
                        refine lv_iload hx hb dX6_casts_171 (lv_at hl 4 rfl) ?_
                        refine lv_iload hx hb dX6_casts_173 (lv_at hl 5 rfl) ?_
                        refine xi_st hx hb hK hP hD hS 8 (f := (upd (mcR (M 1) R P (M 10) k) k (-1 : Int32))) rfl k rfl (by omega) (by decide) (mw K h a (hrow (hrow M 9 E) 10 (upd (upd (mcR (M 1) R P (M 10) k) k (-1 : Int32)) k (nI q)))) rfl dX6_casts_175 (fun H locs hP hD hS => ?_)
                        refine lv_iload_n hx hb dX6_casts_176 rfl (lv_at hl 3 rfl) ?_
                        refine lv_iconst (v := (1 : Int32)) hx hb dX6_casts_177 (by decide) ?_
                        refine lv_iload hx hb dX6_casts_178 (lv_at hl 5 rfl) ?_
                        refine lv_ishl hx hb dX6_casts_180 ?_
                        refine lv_ior hx hb dX6_casts_181 ?_
                        refine lv_istore_n (lv' := [(3, .int ((nI (tkM (M 1) R P k)) ||| ((1 : Int32) <<< ((nI q) &&& 31)))), (0, .ref h), (1, .ref (a 1)), (2, .int ((1 : Int32) <<< ((M 1 4) &&& 31))), (4, .int (nI k)), (5, .int (nI q))]) hx hb dX6_casts_182 rfl hl (by decide) rfl (fun ls hl => ?_)
                        refine lv_iinc (v := nI (k + 1)) (lv' := [(4, .int (nI (k + 1))), (3, .int ((nI (tkM (M 1) R P k)) ||| ((1 : Int32) <<< ((nI q) &&& 31)))), (0, .ref h), (1, .ref (a 1)), (2, .int ((1 : Int32) <<< ((M 1 4) &&& 31))), (5, .int (nI q))]) hx hb dX6_casts_183 hl (k := 4) rfl (nI_1 _) (by decide) rfl (fun ls hl => ?_)
                        refine lv_goto (tgt := 107) hx hb dX6_casts_186 (by decide) ?_
                        have eR4 : (upd (upd (mcR (M 1) R P (M 10) k) k (-1 : Int32)) k (nI q)) = mcR (M 1) R P (M 10) (k + 1) := by first | exact mcR_s (csG_stop hst) | (rw [upd_upd]; exact mcR_s (by rw [hqe]; exact hpk.2.2.1.symm))
                        rw [eR4] at hP hD
                        have hP : va_P K.1 vwCl (mw K h a (hrow (hrow M 9 E) 10 (mcR (M 1) R P (M 10) (k + 1)))) H := hP
                        have hD : va_D A (mw K h a (hrow (hrow M 9 E) 10 (mcR (M 1) R P (M 10) (k + 1)))) := hD
                        exact ih107 (k + 1) _ _ _ (by omega) (by first | omega | assumption | first | rfl | (simp [c_11, c_11n, c_111, c_127, c_136, c_136n, c_158]; done) | omega) hP hD hS (lv_cons (lv_at hl 2 rfl) (lv_cons (lv_at hl 3 rfl) (lv_cons (lv_at hl 4 rfl) (lv_cons (lv_is (lv_at hl 1 rfl) (show (nI (tkM (M 1) R P k)) ||| ((1 : Int32) <<< ((nI q) &&& 31)) = nI (tkM (M 1) R P (k + 1)) by first | exact congrArg nI (tkM_stop hst) | exact (nn_or rfl (nn_shl1 rfl rfl (by omega))).trans (congrArg nI (by rw [hqe]; exact hpk.2.2.2.1.symm)))) (lv_cons (lv_at hl 0 rfl) (lv_nil hl))))))
                      · skip
                        refine lv_iinc (v := nI (q + 1)) (lv' := [(5, .int (nI (q + 1))), (0, .ref h), (1, .ref (a 1)), (2, .int ((1 : Int32) <<< ((M 1 4) &&& 31))), (3, .int (nI (tkM (M 1) R P k))), (4, .int (nI k))]) hx hb dX6_casts_161 hl (k := 5) rfl (nI_1 _) (by decide) rfl (fun ls hl => ?_)
                        refine lv_goto (tgt := 142) hx hb dX6_casts_164 (by decide) ?_
                        exact ih142 (q + 1) _ _ _ (by have h9 := pk_step hpk.2.2.2.2.1 hq c_158; omega) (by exact pk_step hpk.2.2.2.2.1 hq c_158) hP hD hS (lv_cons (lv_at hl 1 rfl) (lv_cons (lv_at hl 2 rfl) (lv_cons (lv_at hl 3 rfl) (lv_cons (lv_at hl 4 rfl) (lv_cons (lv_at hl 5 rfl) (lv_cons (lv_at hl 0 rfl) (lv_nil hl)))))))
                  exact lp142 _ 0 _ _ _ (Nat.lt_succ_self _) (by exact Nat.zero_le _) hP hD hS (lv_cons (lv_at hl 1 rfl) (lv_cons (lv_at hl 2 rfl) (lv_cons (lv_at hl 3 rfl) (lv_cons (lv_at hl 4 rfl) (lv_cons (lv_at hl 5 rfl) (lv_cons (lv_is (lv_at hl 0 rfl) (show (0 : Int32) = nI 0 by first | rfl | (simp [c_11, c_11n, c_111, c_127, c_136, c_136n]; done) | omega)) (lv_nil hl)))))))
        have hP : va_P K.1 vwCl (mw K h a (hrow (hrow M 9 E) 10 (M 10))) H := hP
        have hD : va_D A (mw K h a (hrow (hrow M 9 E) 10 (M 10))) := hD
        have eR5 : (M 10) = mcR (M 1) R P (M 10) 0 := by exact mcR_0 _ _ _ _
        rw [eR5] at hP hD
        have hP : va_P K.1 vwCl (mw K h a (hrow (hrow M 9 E) 10 (mcR (M 1) R P (M 10) 0))) H := hP
        have hD : va_D A (mw K h a (hrow (hrow M 9 E) 10 (mcR (M 1) R P (M 10) 0))) := hD
        exact lp107 _ 0 _ _ _ (Nat.lt_succ_self _) (by first | omega | assumption | first | rfl | (simp [c_11, c_11n]; done) | omega) hP hD hS (lv_cons (lv_at hl 2 rfl) (lv_cons (lv_at hl 3 rfl) (lv_cons (lv_at hl 4 rfl) (lv_cons (lv_is (lv_at hl 1 rfl) (show (0 : Int32) = nI (tkM (M 1) R P 0) by (unfold tkM; split; rfl; rw [if_pos (Nat.zero_le R)]; rfl))) (lv_cons (lv_is (lv_at hl 0 rfl) (show (0 : Int32) = nI 0 by rfl)) (lv_nil hl))))))
      · skip
        have c_11n := Int32.not_lt.mp c_11
        have htp : 0 < t := nn_npos hxx c_11
        obtain ⟨u, rfl⟩ : ∃ u, t = u + 1 := ⟨t - 1, by omega⟩
        have hxt : x = nI u := nn_dec hxx htp
        subst hxt
        have hpu := pop_le u
        have hu2 : u < 2 ^ P := by omega
        refine lv_iload_n hx hb dX6_casts_14 rfl (lv_at hl 3 rfl) ?_
        have hPc := P_sub (ws' := []) hP [] rfl
        refine xr_S (As := [.int (nI u)]) (rest := []) ⟨hx, hb, hml, hown, hts⟩ (c_X6_ones l K u (by omega)) (va_cwS 1 hts gX6_casts_X6_ones rfl rfl rfl (by decide +kernel) ⟨Nat.le_of_ble_eq_true rfl, Nat.le_of_ble_eq_true rfl⟩) hK hPc rfl hl.1 rfl (Nat.le_of_ble_eq_true rfl) (Nat.le_of_ble_eq_true rfl) (Nat.le_of_ble_eq_true rfl) dX6_casts_15 ?_
        refine lv_istore (lv' := [(4, .int (nI (pop u))), (0, .ref h), (1, .ref (a 1)), (2, .int ((1 : Int32) <<< ((M 1 4) &&& 31))), (3, .int (nI u))]) hx hb dX6_casts_18 hl (by decide) rfl (fun ls hl => ?_)
        refine lv_iload hx hb dX6_casts_20 (lv_at hl 0 rfl) ?_
        refine lv_aload_n hx hb dX6_casts_22 rfl (lv_at hl 2 rfl) ?_
        refine lv_iconst (v := (3 : Int32)) hx hb dX6_casts_23 (by decide) ?_
        refine xi_ld hx hb hK hP 2 (f := M 1) rfl 3 rfl (by omega) (by decide) dX6_casts_24 ?_
        refine xn_icmp_ne (tgt := 32) hx hb (pop u) R rfl hR0 (by omega) (by omega) dX6_casts_25 (by decide) (fun c_25 => ?_) (fun c_25 => ?_)
        · skip
          refine lv_iconst (v := (-1 : Int32)) hx hb dX6_casts_32 (by decide) ?_
          refine lv_istore (lv' := [(5, .int (-1 : Int32)), (4, .int (nI (pop u))), (0, .ref h), (1, .ref (a 1)), (2, .int ((1 : Int32) <<< ((M 1 4) &&& 31))), (3, .int (nI u))]) hx hb dX6_casts_33 hl (by decide) rfl (fun ls hl => ?_)
          refine lv_iconst (v := (0 : Int32)) hx hb dX6_casts_35 (by decide) ?_
          refine lv_istore (lv' := [(6, .int (0 : Int32)), (5, .int (-1 : Int32)), (4, .int (nI (pop u))), (0, .ref h), (1, .ref (a 1)), (2, .int ((1 : Int32) <<< ((M 1 4) &&& 31))), (3, .int (nI u))]) hx hb dX6_casts_36 hl (by decide) rfl (fun ls hl => ?_)
          have lp38 : ∀ (n9 : Nat) (p : Nat) (H : Heap) (locs : List Loc) (ls : Array Slot), P - p < n9 → (p ≤ P) → va_P K.1 vwCl (mw K h a (hrow M 9 E)) H → va_D A (mw K h a (hrow M 9 E)) → va_S A s9.heap H locs → lv_has ls 8 [(0, .ref h), (1, .ref (a 1)), (2, .int ((1 : Int32) <<< ((M 1 4) &&& 31))), (3, .int (nI u)), (4, .int (nI (pop u))), (5, .int (bsM (M 1) E u R p)), (6, .int (nI p))] → W p9 l e9 rm_X6_casts_t s9 m9 av9 below9 meth9 c9 H locs 0 0 Q9 (F0 m9 38 ls []) := by
            intro n9
            induction n9 with
            | zero => intro p H locs ls hmu hp9 hP hD hS hl; exact absurd hmu (Nat.not_lt_zero _)
            | succ n9 ih38 =>
              intro p H locs ls hmu hp9 hP hD hS hl
              refine lv_iload hx hb dX6_casts_38 (lv_at hl 6 rfl) ?_
              refine lv_aload_n hx hb dX6_casts_40 rfl (lv_at hl 1 rfl) ?_
              refine lv_iconst (v := (4 : Int32)) hx hb dX6_casts_41 (by decide) ?_
              refine xi_ld hx hb hK hP 2 (f := M 1) rfl 4 rfl (by omega) (by decide) dX6_casts_42 ?_
              refine xn_icmp_ge (tgt := 88) hx hb p P rfl hP0 (by omega) (by omega) dX6_casts_43 (by decide) (fun c_43 => ?_) (fun c_43 => ?_)
              · skip
                refine lv_aload_n hx hb dX6_casts_88 rfl (lv_at hl 0 rfl) ?_
                refine va_get (ci := 6) (v := .ref (a 9)) (C := RX6) (T := TX6) (N := 14) hx hb hts hi6 hown hK hP 0 rfl rfl 9 (by decide) lk29 (fun _ h9 => h9) rfl dX6_casts_89 ?_
                refine lv_iload_n hx hb dX6_casts_92 rfl (lv_at hl 3 rfl) ?_
                refine lv_iload hx hb dX6_casts_93 (lv_at hl 5 rfl) ?_
                refine xi_st hx hb hK hP hD hS 7 (f := E) rfl u rfl (by omega) (by decide) (mw K h a (hrow M 9 (upd E u (bsM (M 1) E u R p)))) rfl dX6_casts_95 (fun H locs hP hD hS => ?_)
                refine lv_iinc (v := (nI u) + (-1)) (lv' := [(3, .int ((nI u) + (-1))), (0, .ref h), (1, .ref (a 1)), (2, .int ((1 : Int32) <<< ((M 1 4) &&& 31))), (4, .int (nI (pop u))), (5, .int (bsM (M 1) E u R p)), (6, .int (nI p))]) hx hb dX6_casts_96 hl (k := 3) rfl rfl (by decide) rfl (fun ls hl => ?_)
                refine lv_goto (tgt := 10) hx hb dX6_casts_99 (by decide) ?_
                exact ih10 ((nI u) + (-1)) u (upd E u (bsM (M 1) E u R p)) _ _ _ (by omega) (by exact nn_m1 _) (by omega) (by exact tab_any hT (bs_val hR0b hP0b hok hT hu2 (by omega) (by omega))) hP hD hS (lv_cons (lv_at hl 1 rfl) (lv_cons (lv_at hl 2 rfl) (lv_cons (lv_at hl 3 rfl) (lv_cons (lv_at hl 0 rfl) (lv_nil hl)))))
              · skip
                refine lv_iload hx hb dX6_casts_46 (lv_at hl 4 rfl) ?_
                refine lv_aload_n hx hb dX6_casts_48 rfl (lv_at hl 1 rfl) ?_
                refine lv_iconst (v := (3 : Int32)) hx hb dX6_casts_49 (by decide) ?_
                refine xi_ld hx hb hK hP 2 (f := M 1) rfl 3 rfl (by omega) (by decide) dX6_casts_50 ?_
                refine xn_icmp_ge (tgt := 88) hx hb (pop u) R rfl hR0 (by omega) (by omega) dX6_casts_51 (by decide) (fun c_51 => ?_) (fun c_51 => ?_)
                · skip
                  refine lv_aload_n hx hb dX6_casts_88 rfl (lv_at hl 0 rfl) ?_
                  refine va_get (ci := 6) (v := .ref (a 9)) (C := RX6) (T := TX6) (N := 14) hx hb hts hi6 hown hK hP 0 rfl rfl 9 (by decide) lk29 (fun _ h9 => h9) rfl dX6_casts_89 ?_
                  refine lv_iload_n hx hb dX6_casts_92 rfl (lv_at hl 3 rfl) ?_
                  refine lv_iload hx hb dX6_casts_93 (lv_at hl 5 rfl) ?_
                  refine xi_st hx hb hK hP hD hS 7 (f := E) rfl u rfl (by omega) (by decide) (mw K h a (hrow M 9 (upd E u (bsM (M 1) E u R p)))) rfl dX6_casts_95 (fun H locs hP hD hS => ?_)
                  refine lv_iinc (v := (nI u) + (-1)) (lv' := [(3, .int ((nI u) + (-1))), (0, .ref h), (1, .ref (a 1)), (2, .int ((1 : Int32) <<< ((M 1 4) &&& 31))), (4, .int (nI (pop u))), (5, .int (bsM (M 1) E u R p)), (6, .int (nI p))]) hx hb dX6_casts_96 hl (k := 3) rfl rfl (by decide) rfl (fun ls hl => ?_)
                  refine lv_goto (tgt := 10) hx hb dX6_casts_99 (by decide) ?_
                  exact ih10 ((nI u) + (-1)) u (upd E u (bsM (M 1) E u R p)) _ _ _ (by omega) (by exact nn_m1 _) (by omega) (by exact tab_any hT (bs_val hR0b hP0b hok hT hu2 (by omega) (by omega))) hP hD hS (lv_cons (lv_at hl 1 rfl) (lv_cons (lv_at hl 2 rfl) (lv_cons (lv_at hl 3 rfl) (lv_cons (lv_at hl 0 rfl) (lv_nil hl)))))
                · skip
                  refine lv_aload_n hx hb dX6_casts_54 rfl (lv_at hl 0 rfl) ?_
                  refine lv_aload_n hx hb dX6_casts_55 rfl (lv_at hl 1 rfl) ?_
                  refine lv_iload_n hx hb dX6_casts_56 rfl (lv_at hl 3 rfl) ?_
                  refine lv_iload hx hb dX6_casts_57 (lv_at hl 6 rfl) ?_
                  refine lv_iload hx hb dX6_casts_59 (lv_at hl 4 rfl) ?_
                  have hPc : va_P K.1 vwCl (mw K h a (hrow M 9 E)) H := hP
                  refine xr_V (As := [.ref (a 1), .int (nI u), .int (nI p), .int (nI (pop u))]) (rest := []) ⟨hx, hb, hml, hown, hts⟩ (c_X6_goesOn_t l K h a (hrow M 9 E) u (by omega) p (by omega) (pop u) (by omega)) (cwV 4 hts gX6_casts_X6_goesOn rfl rfl rfl (by decide +kernel) ⟨Nat.le_of_ble_eq_true rfl, Nat.le_of_ble_eq_true rfl⟩) hK hPc 0 6 rfl rfl rfl rfl hl.1 rfl (Nat.le_of_ble_eq_true rfl) (Nat.le_of_ble_eq_true rfl) (Nat.le_of_ble_eq_true rfl) dX6_casts_61 ?_
                  refine lv_istore (lv' := [(7, .int (goM (M 1) ((E)) u p (pop u))), (0, .ref h), (1, .ref (a 1)), (2, .int ((1 : Int32) <<< ((M 1 4) &&& 31))), (3, .int (nI u)), (4, .int (nI (pop u))), (5, .int (bsM (M 1) E u R p)), (6, .int (nI p))]) hx hb dX6_casts_64 hl (by decide) rfl (fun ls hl => ?_)
                  refine lv_iload hx hb dX6_casts_66 (lv_at hl 0 rfl) ?_
                  refine lv_iload hx hb dX6_casts_68 (lv_at hl 6 rfl) ?_
                  refine lv_icmp_le (tgt := 78) hx hb dX6_casts_70 (by decide) (fun c_70 => ?_) (fun c_70 => ?_)
                  · skip
                    have c_70n := Int32.not_lt.mpr c_70
                    refine lv_iload hx hb dX6_casts_78 (lv_at hl 6 rfl) ?_
                    refine lv_istore (lv' := [(5, .int (bsM (M 1) E u R p)), (7, .int (goM (M 1) ((E)) u p (pop u))), (0, .ref h), (1, .ref (a 1)), (2, .int ((1 : Int32) <<< ((M 1 4) &&& 31))), (3, .int (nI u)), (4, .int (nI (pop u))), (6, .int (nI p))]) hx hb dX6_casts_80 hl (by decide) rfl (fun ls hl => ?_)
                    refine lv_iinc (v := nI (p + 1)) (lv' := [(6, .int (nI (p + 1))), (5, .int (bsM (M 1) E u R p)), (7, .int (goM (M 1) ((E)) u p (pop u))), (0, .ref h), (1, .ref (a 1)), (2, .int ((1 : Int32) <<< ((M 1 4) &&& 31))), (3, .int (nI u)), (4, .int (nI (pop u)))]) hx hb dX6_casts_82 hl (k := 7) rfl (nI_1 _) (by decide) rfl (fun ls hl => ?_)
                    refine lv_goto (tgt := 38) hx hb dX6_casts_85 (by decide) ?_
                    exact ih38 (p + 1) _ _ _ (by omega) (by first | omega | assumption | first | rfl | (simp [c_11, c_11n, c_25, c_43, c_51, c_70, c_70n]; done) | omega) hP hD hS (lv_cons (lv_at hl 3 rfl) (lv_cons (lv_at hl 4 rfl) (lv_cons (lv_at hl 5 rfl) (lv_cons (lv_at hl 6 rfl) (lv_cons (lv_at hl 7 rfl) (lv_cons (lv_is (lv_at hl 1 rfl) (show bsM (M 1) E u R p = bsM (M 1) E u R (p + 1) by first | (have z9 := c_70n; simp only [bsM, if_pos c_51, mxF] at z9 ⊢; rw [if_neg z9]; done) | (have z9 := c_70n; simp only [bsM, if_pos c_51, mxF] at z9 ⊢; rw [if_pos z9]; done))) (lv_cons (lv_at hl 0 rfl) (lv_nil hl))))))))
                  · skip
                    have c_70n := Int32.not_le.mp c_70
                    refine lv_iload hx hb dX6_casts_73 (lv_at hl 0 rfl) ?_
                    refine lv_goto (tgt := 80) hx hb dX6_casts_75 (by decide) ?_
                    refine lv_istore (lv' := [(5, .int (goM (M 1) ((E)) u p (pop u))), (7, .int (goM (M 1) ((E)) u p (pop u))), (0, .ref h), (1, .ref (a 1)), (2, .int ((1 : Int32) <<< ((M 1 4) &&& 31))), (3, .int (nI u)), (4, .int (nI (pop u))), (6, .int (nI p))]) hx hb dX6_casts_80 hl (by decide) rfl (fun ls hl => ?_)
                    refine lv_iinc (v := nI (p + 1)) (lv' := [(6, .int (nI (p + 1))), (5, .int (goM (M 1) ((E)) u p (pop u))), (7, .int (goM (M 1) ((E)) u p (pop u))), (0, .ref h), (1, .ref (a 1)), (2, .int ((1 : Int32) <<< ((M 1 4) &&& 31))), (3, .int (nI u)), (4, .int (nI (pop u)))]) hx hb dX6_casts_82 hl (k := 7) rfl (nI_1 _) (by decide) rfl (fun ls hl => ?_)
                    refine lv_goto (tgt := 38) hx hb dX6_casts_85 (by decide) ?_
                    exact ih38 (p + 1) _ _ _ (by omega) (by first | omega | assumption | first | rfl | (simp [c_11, c_11n, c_25, c_43, c_51, c_70, c_70n]; done) | omega) hP hD hS (lv_cons (lv_at hl 3 rfl) (lv_cons (lv_at hl 4 rfl) (lv_cons (lv_at hl 5 rfl) (lv_cons (lv_at hl 6 rfl) (lv_cons (lv_at hl 7 rfl) (lv_cons (lv_is (lv_at hl 1 rfl) (show goM (M 1) ((E)) u p (pop u) = bsM (M 1) E u R (p + 1) by first | (have z9 := c_70n; simp only [bsM, if_pos c_51, mxF] at z9 ⊢; rw [if_neg z9]; done) | (have z9 := c_70n; simp only [bsM, if_pos c_51, mxF] at z9 ⊢; rw [if_pos z9]; done))) (lv_cons (lv_at hl 0 rfl) (lv_nil hl))))))))
          exact lp38 _ 0 _ _ _ (Nat.lt_succ_self _) (by first | omega | assumption | first | rfl | (simp [c_11, c_11n, c_25]; done) | omega) hP hD hS (lv_cons (lv_at hl 3 rfl) (lv_cons (lv_at hl 4 rfl) (lv_cons (lv_at hl 5 rfl) (lv_cons (lv_at hl 6 rfl) (lv_cons (lv_at hl 2 rfl) (lv_cons (lv_is (lv_at hl 1 rfl) (show (-1 : Int32) = bsM (M 1) E u R 0 by (unfold bsM; (repeat' split) <;> first | rfl | omega))) (lv_cons (lv_is (lv_at hl 0 rfl) (show (0 : Int32) = nI 0 by rfl)) (lv_nil hl))))))))
        · skip
          refine lv_iconst (v := (0 : Int32)) hx hb dX6_casts_28 (by decide) ?_
          refine lv_goto (tgt := 33) hx hb dX6_casts_29 (by decide) ?_
          refine lv_istore (lv' := [(5, .int (0 : Int32)), (4, .int (nI (pop u))), (0, .ref h), (1, .ref (a 1)), (2, .int ((1 : Int32) <<< ((M 1 4) &&& 31))), (3, .int (nI u))]) hx hb dX6_casts_33 hl (by decide) rfl (fun ls hl => ?_)
          refine lv_iconst (v := (0 : Int32)) hx hb dX6_casts_35 (by decide) ?_
          refine lv_istore (lv' := [(6, .int (0 : Int32)), (5, .int (0 : Int32)), (4, .int (nI (pop u))), (0, .ref h), (1, .ref (a 1)), (2, .int ((1 : Int32) <<< ((M 1 4) &&& 31))), (3, .int (nI u))]) hx hb dX6_casts_36 hl (by decide) rfl (fun ls hl => ?_)
          have lp38 : ∀ (n9 : Nat) (p : Nat) (H : Heap) (locs : List Loc) (ls : Array Slot), P - p < n9 → (p ≤ P) → va_P K.1 vwCl (mw K h a (hrow M 9 E)) H → va_D A (mw K h a (hrow M 9 E)) → va_S A s9.heap H locs → lv_has ls 8 [(0, .ref h), (1, .ref (a 1)), (2, .int ((1 : Int32) <<< ((M 1 4) &&& 31))), (3, .int (nI u)), (4, .int (nI (pop u))), (5, .int (bsM (M 1) E u R p)), (6, .int (nI p))] → W p9 l e9 rm_X6_casts_t s9 m9 av9 below9 meth9 c9 H locs 0 0 Q9 (F0 m9 38 ls []) := by
            intro n9
            induction n9 with
            | zero => intro p H locs ls hmu hp9 hP hD hS hl; exact absurd hmu (Nat.not_lt_zero _)
            | succ n9 ih38 =>
              intro p H locs ls hmu hp9 hP hD hS hl
              refine lv_iload hx hb dX6_casts_38 (lv_at hl 6 rfl) ?_
              refine lv_aload_n hx hb dX6_casts_40 rfl (lv_at hl 1 rfl) ?_
              refine lv_iconst (v := (4 : Int32)) hx hb dX6_casts_41 (by decide) ?_
              refine xi_ld hx hb hK hP 2 (f := M 1) rfl 4 rfl (by omega) (by decide) dX6_casts_42 ?_
              refine xn_icmp_ge (tgt := 88) hx hb p P rfl hP0 (by omega) (by omega) dX6_casts_43 (by decide) (fun c_43 => ?_) (fun c_43 => ?_)
              · skip
                refine lv_aload_n hx hb dX6_casts_88 rfl (lv_at hl 0 rfl) ?_
                refine va_get (ci := 6) (v := .ref (a 9)) (C := RX6) (T := TX6) (N := 14) hx hb hts hi6 hown hK hP 0 rfl rfl 9 (by decide) lk29 (fun _ h9 => h9) rfl dX6_casts_89 ?_
                refine lv_iload_n hx hb dX6_casts_92 rfl (lv_at hl 3 rfl) ?_
                refine lv_iload hx hb dX6_casts_93 (lv_at hl 5 rfl) ?_
                refine xi_st hx hb hK hP hD hS 7 (f := E) rfl u rfl (by omega) (by decide) (mw K h a (hrow M 9 (upd E u (bsM (M 1) E u R p)))) rfl dX6_casts_95 (fun H locs hP hD hS => ?_)
                refine lv_iinc (v := (nI u) + (-1)) (lv' := [(3, .int ((nI u) + (-1))), (0, .ref h), (1, .ref (a 1)), (2, .int ((1 : Int32) <<< ((M 1 4) &&& 31))), (4, .int (nI (pop u))), (5, .int (bsM (M 1) E u R p)), (6, .int (nI p))]) hx hb dX6_casts_96 hl (k := 3) rfl rfl (by decide) rfl (fun ls hl => ?_)
                refine lv_goto (tgt := 10) hx hb dX6_casts_99 (by decide) ?_
                exact ih10 ((nI u) + (-1)) u (upd E u (bsM (M 1) E u R p)) _ _ _ (by omega) (by exact nn_m1 _) (by omega) (by exact tab_any hT (bs_val hR0b hP0b hok hT hu2 (by omega) (by omega))) hP hD hS (lv_cons (lv_at hl 1 rfl) (lv_cons (lv_at hl 2 rfl) (lv_cons (lv_at hl 3 rfl) (lv_cons (lv_at hl 0 rfl) (lv_nil hl)))))
              · skip
                refine lv_iload hx hb dX6_casts_46 (lv_at hl 4 rfl) ?_
                refine lv_aload_n hx hb dX6_casts_48 rfl (lv_at hl 1 rfl) ?_
                refine lv_iconst (v := (3 : Int32)) hx hb dX6_casts_49 (by decide) ?_
                refine xi_ld hx hb hK hP 2 (f := M 1) rfl 3 rfl (by omega) (by decide) dX6_casts_50 ?_
                refine xn_icmp_ge (tgt := 88) hx hb (pop u) R rfl hR0 (by omega) (by omega) dX6_casts_51 (by decide) (fun c_51 => ?_) (fun c_51 => ?_)
                · skip
                  refine lv_aload_n hx hb dX6_casts_88 rfl (lv_at hl 0 rfl) ?_
                  refine va_get (ci := 6) (v := .ref (a 9)) (C := RX6) (T := TX6) (N := 14) hx hb hts hi6 hown hK hP 0 rfl rfl 9 (by decide) lk29 (fun _ h9 => h9) rfl dX6_casts_89 ?_
                  refine lv_iload_n hx hb dX6_casts_92 rfl (lv_at hl 3 rfl) ?_
                  refine lv_iload hx hb dX6_casts_93 (lv_at hl 5 rfl) ?_
                  refine xi_st hx hb hK hP hD hS 7 (f := E) rfl u rfl (by omega) (by decide) (mw K h a (hrow M 9 (upd E u (bsM (M 1) E u R p)))) rfl dX6_casts_95 (fun H locs hP hD hS => ?_)
                  refine lv_iinc (v := (nI u) + (-1)) (lv' := [(3, .int ((nI u) + (-1))), (0, .ref h), (1, .ref (a 1)), (2, .int ((1 : Int32) <<< ((M 1 4) &&& 31))), (4, .int (nI (pop u))), (5, .int (bsM (M 1) E u R p)), (6, .int (nI p))]) hx hb dX6_casts_96 hl (k := 3) rfl rfl (by decide) rfl (fun ls hl => ?_)
                  refine lv_goto (tgt := 10) hx hb dX6_casts_99 (by decide) ?_
                  exact ih10 ((nI u) + (-1)) u (upd E u (bsM (M 1) E u R p)) _ _ _ (by omega) (by exact nn_m1 _) (by omega) (by exact tab_any hT (bs_val hR0b hP0b hok hT hu2 (by omega) (by omega))) hP hD hS (lv_cons (lv_at hl 1 rfl) (lv_cons (lv_at hl 2 rfl) (lv_cons (lv_at hl 3 rfl) (lv_cons (lv_at hl 0 rfl) (lv_nil hl)))))
                · skip
                  refine lv_aload_n hx hb dX6_casts_54 rfl (lv_at hl 0 rfl) ?_
                  refine lv_aload_n hx hb dX6_casts_55 rfl (lv_at hl 1 rfl) ?_
                  refine lv_iload_n hx hb dX6_casts_56 rfl (lv_at hl 3 rfl) ?_
                  refine lv_iload hx hb dX6_casts_57 (lv_at hl 6 rfl) ?_
                  refine lv_iload hx hb dX6_casts_59 (lv_at hl 4 rfl) ?_
                  have hPc : va_P K.1 vwCl (mw K h a (hrow M 9 E)) H := hP
                  refine xr_V (As := [.ref (a 1), .int (nI u), .int (nI p), .int (nI (pop u))]) (rest := []) ⟨hx, hb, hml, hown, hts⟩ (c_X6_goesOn_t l K h a (hrow M 9 E) u (by omega) p (by omega) (pop u) (by omega)) (cwV 4 hts gX6_casts_X6_goesOn rfl rfl rfl (by decide +kernel) ⟨Nat.le_of_ble_eq_true rfl, Nat.le_of_ble_eq_true rfl⟩) hK hPc 0 6 rfl rfl rfl rfl hl.1 rfl (Nat.le_of_ble_eq_true rfl) (Nat.le_of_ble_eq_true rfl) (Nat.le_of_ble_eq_true rfl) dX6_casts_61 ?_
                  refine lv_istore (lv' := [(7, .int (goM (M 1) ((E)) u p (pop u))), (0, .ref h), (1, .ref (a 1)), (2, .int ((1 : Int32) <<< ((M 1 4) &&& 31))), (3, .int (nI u)), (4, .int (nI (pop u))), (5, .int (bsM (M 1) E u R p)), (6, .int (nI p))]) hx hb dX6_casts_64 hl (by decide) rfl (fun ls hl => ?_)
                  refine lv_iload hx hb dX6_casts_66 (lv_at hl 0 rfl) ?_
                  refine lv_iload hx hb dX6_casts_68 (lv_at hl 6 rfl) ?_
                  refine lv_icmp_le (tgt := 78) hx hb dX6_casts_70 (by decide) (fun c_70 => ?_) (fun c_70 => ?_)
                  · skip
                    have c_70n := Int32.not_lt.mpr c_70
                    refine lv_iload hx hb dX6_casts_78 (lv_at hl 6 rfl) ?_
                    refine lv_istore (lv' := [(5, .int (bsM (M 1) E u R p)), (7, .int (goM (M 1) ((E)) u p (pop u))), (0, .ref h), (1, .ref (a 1)), (2, .int ((1 : Int32) <<< ((M 1 4) &&& 31))), (3, .int (nI u)), (4, .int (nI (pop u))), (6, .int (nI p))]) hx hb dX6_casts_80 hl (by decide) rfl (fun ls hl => ?_)
                    refine lv_iinc (v := nI (p + 1)) (lv' := [(6, .int (nI (p + 1))), (5, .int (bsM (M 1) E u R p)), (7, .int (goM (M 1) ((E)) u p (pop u))), (0, .ref h), (1, .ref (a 1)), (2, .int ((1 : Int32) <<< ((M 1 4) &&& 31))), (3, .int (nI u)), (4, .int (nI (pop u)))]) hx hb dX6_casts_82 hl (k := 7) rfl (nI_1 _) (by decide) rfl (fun ls hl => ?_)
                    refine lv_goto (tgt := 38) hx hb dX6_casts_85 (by decide) ?_
                    exact ih38 (p + 1) _ _ _ (by omega) (by first | omega | assumption | first | rfl | (simp [c_11, c_11n, c_25, c_43, c_51, c_70, c_70n]; done) | omega) hP hD hS (lv_cons (lv_at hl 3 rfl) (lv_cons (lv_at hl 4 rfl) (lv_cons (lv_at hl 5 rfl) (lv_cons (lv_at hl 6 rfl) (lv_cons (lv_at hl 7 rfl) (lv_cons (lv_is (lv_at hl 1 rfl) (show bsM (M 1) E u R p = bsM (M 1) E u R (p + 1) by first | (have z9 := c_70n; simp only [bsM, if_pos c_51, mxF] at z9 ⊢; rw [if_neg z9]; done) | (have z9 := c_70n; simp only [bsM, if_pos c_51, mxF] at z9 ⊢; rw [if_pos z9]; done))) (lv_cons (lv_at hl 0 rfl) (lv_nil hl))))))))
                  · skip
                    have c_70n := Int32.not_le.mp c_70
                    refine lv_iload hx hb dX6_casts_73 (lv_at hl 0 rfl) ?_
                    refine lv_goto (tgt := 80) hx hb dX6_casts_75 (by decide) ?_
                    refine lv_istore (lv' := [(5, .int (goM (M 1) ((E)) u p (pop u))), (7, .int (goM (M 1) ((E)) u p (pop u))), (0, .ref h), (1, .ref (a 1)), (2, .int ((1 : Int32) <<< ((M 1 4) &&& 31))), (3, .int (nI u)), (4, .int (nI (pop u))), (6, .int (nI p))]) hx hb dX6_casts_80 hl (by decide) rfl (fun ls hl => ?_)
                    refine lv_iinc (v := nI (p + 1)) (lv' := [(6, .int (nI (p + 1))), (5, .int (goM (M 1) ((E)) u p (pop u))), (7, .int (goM (M 1) ((E)) u p (pop u))), (0, .ref h), (1, .ref (a 1)), (2, .int ((1 : Int32) <<< ((M 1 4) &&& 31))), (3, .int (nI u)), (4, .int (nI (pop u)))]) hx hb dX6_casts_82 hl (k := 7) rfl (nI_1 _) (by decide) rfl (fun ls hl => ?_)
                    refine lv_goto (tgt := 38) hx hb dX6_casts_85 (by decide) ?_
                    exact ih38 (p + 1) _ _ _ (by omega) (by first | omega | assumption | first | rfl | (simp [c_11, c_11n, c_25, c_43, c_51, c_70, c_70n]; done) | omega) hP hD hS (lv_cons (lv_at hl 3 rfl) (lv_cons (lv_at hl 4 rfl) (lv_cons (lv_at hl 5 rfl) (lv_cons (lv_at hl 6 rfl) (lv_cons (lv_at hl 7 rfl) (lv_cons (lv_is (lv_at hl 1 rfl) (show goM (M 1) ((E)) u p (pop u) = bsM (M 1) E u R (p + 1) by first | (have z9 := c_70n; simp only [bsM, if_pos c_51, mxF] at z9 ⊢; rw [if_neg z9]; done) | (have z9 := c_70n; simp only [bsM, if_pos c_51, mxF] at z9 ⊢; rw [if_pos z9]; done))) (lv_cons (lv_at hl 0 rfl) (lv_nil hl))))))))
          exact lp38 _ 0 _ _ _ (Nat.lt_succ_self _) (by first | omega | assumption | first | rfl | (simp [c_11, c_11n, c_25]; done) | omega) hP hD hS (lv_cons (lv_at hl 3 rfl) (lv_cons (lv_at hl 4 rfl) (lv_cons (lv_at hl 5 rfl) (lv_cons (lv_at hl 6 rfl) (lv_cons (lv_at hl 2 rfl) (lv_cons (lv_is (lv_at hl 1 rfl) (show (0 : Int32) = bsM (M 1) E u R 0 by (unfold bsM; (repeat' split) <;> first | rfl | omega))) (lv_cons (lv_is (lv_at hl 0 rfl) (show (0 : Int32) = nI 0 by rfl)) (lv_nil hl))))))))
  have hP : va_P K.1 vwCl (mw K h a (hrow M 9 (M 9))) H := hP
  have hD : va_D A (mw K h a (hrow M 9 (M 9))) := hD
  exact lp10 _ (((1 : Int32) <<< ((M 1 4) &&& 31)) - (1 : Int32)) (2 ^ P) (M 9) _ _ _ (Nat.lt_succ_self _) (by rw [nn_shl1 (rfl : (1 : Int32) = nI 1) hP0 (by omega), Int32.sub_add_cancel]) (by exact Nat.le_refl _) (by intro t h1 h2; omega) hP hD hS (lv_cons (lv_at hl 2 rfl) (lv_cons (lv_at hl 3 rfl) (lv_cons (lv_at hl 1 rfl) (lv_cons (lv_at hl 0 rfl) (lv_nil hl)))))

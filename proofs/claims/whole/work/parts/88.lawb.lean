/-! the law's cases: the world, reading the script, the end of a case -/
theorem perm_tri {α : Type} (l : List (List α)) (n : Nat) (hn : l.length = n) (i1 i2 i3 : List Nat) (h : (i1 ++ (i2 ++ i3)).Perm (List.range n)) : (catL l).Perm (catL (i1.map (fun i => l.getD i [])) ++ (catL (i2.map (fun i => l.getD i [])) ++ catL (i3.map (fun i => l.getD i [])))) := by
  have h1 := perm_split l n hn i1 (i2 ++ i3) h
  rw [List.map_append, catL_flat (_ ++ _), List.flatten_append, ← catL_flat, ← catL_flat] at h1
  exact h1
theorem perm_sw {α : Type} (u v w : List α) : (u ++ (v ++ w)).Perm (v ++ (u ++ w)) := by
  rw [← List.append_assoc, ← List.append_assoc]
  exact List.perm_append_comm.append_right w
def LAd : Type := (Nat → Nat) × (Nat → Nat → Nat) × (Nat → Nat → Nat → Nat)
def LAd.x (a : LAd) : Nat := a.1 0
def LAd.tx (a : LAd) : Nat := a.1 1
def LAd.ho (a : LAd) : Nat := a.1 2
def LAd.ca (a : LAd) : Nat := a.1 3
def LAd.tr (a : LAd) : Nat := a.1 4
def LAd.th (a : LAd) : Nat := a.1 5
def LAd.hi (a : LAd) : Nat := a.1 6
def LAd.qs (a : LAd) : Nat := a.1 7
def LAd.sl (a : LAd) : Nat := a.1 8
def LAd.sv (a : LAd) : Nat := a.1 9
def LAd.o (a : LAd) : Nat := a.1 10
def LAd.y (a : LAd) : Nat := a.1 11
def LAd.txa (a : LAd) : Nat → Nat := a.2.1 0
def LAd.hoa (a : LAd) : Nat → Nat := a.2.1 1
def LAd.caa (a : LAd) : Nat → Nat := a.2.1 2
def LAd.tha (a : LAd) : Nat → Nat := a.2.1 3
def LAd.hs (a : LAd) : Nat → Nat := a.2.1 4
def LAd.sh (a : LAd) : Nat → Nat := a.2.1 5
def LAd.ya (a : LAd) : Nat → Nat := a.2.1 6
def LAd.as (a : LAd) : Nat → Nat → Nat := a.2.2 0
def LAd.sa (a : LAd) : Nat → Nat → Nat := a.2.2 1
abbrev LWl (K : KX) (a : LAd) (T S C U M : HV) (cn nx : Nat) (Ss Sl : Nat → HV) (V : Nat → Int32) (g9 : Nat → Int64) : List va_W := [[(a.o, aL K 1 g9)], [(a.x, .inr (5, [.ref a.tx, .ref a.ho, .ref a.ca, .ref a.tr, .ref a.hi, .ref a.sl, .ref a.sv]))], tw K a.tx a.txa T, hw K a.ho a.hoa S, cw K a.ca a.caa C, [(a.tr, .inr (4, [.ref a.th]))], hw K a.th a.tha U, [(a.hi, .inr (1, [.ref a.qs, .int (nI cn), .int (nI nx)]))], [(a.qs, aQ K 14 (fun j => some (a.hs j)))], [(a.sl, aQ K 2 (fun j => some (a.sh j)))], [(a.sv, aZ K 2 V)], hwR K a.hs a.as Ss 14, hwR K a.sh a.sa Sl 2, mw K a.y a.ya M]
def LCx (p : Program) (s : State) (m : MethodId) (args : Array Value) (c : Code) (K : KX) (A : Nat → Prop) (xs : Nat → Int32) (LL b : Nat) : Prop := p.tables.exec = Jvm.exec ∧ c.code = cL_law ∧ c.maxLocals = 7 ∧ s.vm.findClass RL = some m.cls ∧ (∀ w ∈ wsL_law, w.before args s = true) ∧ va_K K.1 vwCl (kt K) s ∧ xSt A s s.heap ∧ (∀ q : Nat, s.heap.size ≤ q → A q) ∧ va_X b LL xs s s.heap ∧ b < s.heap.size ∧ ¬ A b ∧ LL ≤ 2048
def LNext (p : Program) (l : Launch) (e : Env) (s : State) (m : MethodId) (args : Array Value) (below : List Frame) (meth : Method) (c : Code) (Q : State → Prop) (K : KX) (a : LAd) (A : Nat → Prop) (b i B cells slots pc : Nat) : Prop := ∀ (T S C U M : HV) (cn nx : Nat) (Ss Sl : Nat → HV) (V : Nat → Int32) (RR PP L : Nat) (ch : Nat → Nat) (g9 : Nat → Int64) (H : Heap) (locs : List Loc) (ls : Array Slot), LI B T S M cn nx Ss Sl V RR PP L ch → va_P K.1 vwCl (catL (LWl K a T S C U M cn nx Ss Sl V g9)) H → va_D A (catL (LWl K a T S C U M cn nx Ss Sl V g9)) → va_S A s.heap H locs → lv_has ls 7 [(0, .ref b), (1, .ref a.x), (2, .ref a.y), (3, .ref a.o), (4, .int (nI i))] → W p l e room_1 s m args below meth c H locs cells slots Q (F0 m pc ls [])
/-! what is so of a house and the model's ints when an action is done -/
section SRA
variable {S : HV} {N : Nat → Int32} {R P B : Nat}
theorem sr_lt {x y : Nat} {v : Int32} (h : v = nI x) (hx : x ≤ 10) (hy : y ≤ 10) (c : v < nI y) : x < y := by
  rw [h] at c
  exact (nI_ltI (by omega) (by omega)).mp c
theorem sr_addRole {w : Int32} (h : SR S N R P B) (hk : kAddRole S w = 0) : SR (hPutRole S R w) (upd (upd N (12 + R) w) 3 (N 3 + 1)) (R + 1) P (B + 100) := by
  unfold kAddRole at hk
  by_cases c1 : inR w 1 9
  · rw [if_neg (fun z => z c1)] at hk
    by_cases c2 : S 10 0 < 6 ∧ S 16 0 = 0
    · obtain ⟨e, h1, h2⟩ := rng_cN (lo := 1) (hi := 9) c1 (by decide)
      rw [e]
      exact SR_more (role_rel h (sr_lt h.1.1.1 (by have := h.1.1.2; omega) (by decide) c2.1) c2.2 ⟨h1, h2⟩) (by omega)
    · rw [if_neg c2] at hk
      exact absurd hk (by decide)
  · rw [if_pos c1] at hk
    exact absurd hk (by decide)
theorem sr_addPlayer (h : SR S N R P B) (hk : kAddPlayer S = 0) : SR (hPutPlayer S) (upd N 4 (N 4 + 1)) R (P + 1) (B + 100) := by
  unfold kAddPlayer at hk
  by_cases c : S 11 0 < 10
  · exact SR_more (player_rel h (sr_lt h.1.2.1.1 h.1.2.1.2 (by decide) c)) (by omega)
  · rw [if_neg c] at hk
    exact absurd hk (by decide)
theorem sr_pl {p : Int32} (h : SR S N R P B) (c : isPl S p) : p = nI (cN p) ∧ cN p < P := idx_cN h.1.2.1.1 (by have := h.1.2.1.2; omega) c
theorem sr_ro {r : Int32} (h : SR S N R P B) (c : isRo S r) : r = nI (cN r) ∧ cN r < R := idx_cN h.1.1.1 (by have := h.1.1.2; omega) c
theorem sr_ready0 {p r d : Int32} (hk : kReady S p r d = 0) : isPl S p ∧ isRo S r ∧ inR d 0 9 := by
  unfold kReady at hk
  by_cases c1 : ¬ isPl S p ∨ ¬ isRo S r
  · rw [if_pos c1] at hk
    exact absurd hk (by decide)
  · rw [if_neg c1] at hk
    by_cases c2 : inR d 0 9
    · exact ⟨Classical.byContradiction fun z => c1 (Or.inl z), Classical.byContradiction fun z => c1 (Or.inr z), c2⟩
    · rw [if_neg c2] at hk
      exact absurd hk (by decide)
theorem sr_ready {p r d : Int32} (h : SR S N R P B) (hk : kReady S p r d = 0) : SR (hset S 3 (cN r * 10 + cN p) d) (upd N (70 + 6 * cN p + cN r) d) R P (B + 100) := by
  obtain ⟨c1, c2, c3⟩ := sr_ready0 hk
  obtain ⟨e, -, h2⟩ := rng_cN (lo := 0) (hi := 9) c3 (by decide)
  rw [e]
  exact SR_more (ready_rel h (sr_pl h c1).2 (sr_ro h c2).2 h2) (by omega)
theorem sr_ready_e {p r d : Int32} (h : SR S N R P B) (hk : kReady S p r d = 0) : N (70 + 6 * cN p + cN r) = S 3 (cN r * 10 + cN p) := by
  obtain ⟨c1, c2, c3⟩ := sr_ready0 hk
  have z1 := (sr_pl h c1).2
  have z2 := (sr_ro h c2).2
  have := h.1.1.2
  have := h.1.2.1.2
  exact rc3 h.2.1 (by omega) (by omega)
theorem sr_first0 {r p : Int32} (hk : kFirst S r p = 0) : isRo S r ∧ isPl S p := by
  unfold kFirst at hk
  by_cases c1 : ¬ isRo S r ∨ ¬ isPl S p
  · rw [if_pos c1] at hk
    exact absurd hk (by decide)
  · exact ⟨Classical.byContradiction fun z => c1 (Or.inl z), Classical.byContradiction fun z => c1 (Or.inr z)⟩
theorem sr_first {r p : Int32} (h : SR S N R P B) (hk : kFirst S r p = 0) : SR (hset S 1 (cN r) (nI (cN p))) (upd N (18 + cN r) p) R P (B + 100) := by
  obtain ⟨c1, c2⟩ := sr_first0 hk
  have e := sr_pl h c2
  have := SR_more (first_rel h e.2 (sr_ro h c1).2) (show B ≤ B + 100 by omega)
  rw [← e.1] at this ⊢
  exact this
theorem sr_first_e {r p : Int32} (h : SR S N R P B) (hk : kFirst S r p = 0) : N (18 + cN r) = S 1 (cN r) := by
  have z2 := (sr_ro h (sr_first0 hk).1).2
  have := h.1.1.2
  exact rc1 h.2.1 (by omega)
theorem sr_away {p d : Int32} (h : SR S N R P B) (hk : kAway S p d = 0) : SR (hAway S (cN p) (cN d)) (upd N (50 + cN p) (N 0 + d)) R P (B + 100) := by
  unfold kAway at hk
  by_cases c1 : isPl S p
  · rw [if_neg (fun z => z c1)] at hk
    by_cases c2 : inR d 1 99
    · obtain ⟨e, -, h2⟩ := rng_cN (lo := 1) (hi := 99) c2 (by decide)
      have := SR_more (away_rel (d := cN d) h (sr_pl h c1).2 h2) (show B ≤ B + 100 by omega)
      rw [← e] at this
      exact this
    · rw [if_neg c2] at hk
      exact absurd hk (by decide)
  · rw [if_pos c1] at hk
    exact absurd hk (by decide)
theorem sr_post (h : SR S N R P B) (hk : kPost S R P = 0) : SR (hPost S R P) (mPost N R P) R P (B + 100) := by
  unfold kPost at hk
  by_cases c : R = 0 ∨ hStr S R P = -1
  · rw [if_pos c] at hk
    exact absurd hk (by decide)
  · exact SR_more (post_rel h (fun z => c (Or.inr z))) (by omega)
theorem sr_dark0 {n : Int32} (hk : kDark n = 0) : n = nI (cN n) ∧ 1 ≤ cN n ∧ cN n ≤ 99 := by
  unfold kDark at hk
  by_cases c : inR n 1 99
  · exact rng_cN (lo := 1) (hi := 99) c (by decide)
  · rw [if_neg c] at hk
    exact absurd hk (by decide)
theorem sr_dark {n : Int32} (h : SR S N R P B) (hk : kDark n = 0) : SR (hPass S (cN n)) (mDk N (cN n) P) R P (B + 100) := by
  obtain ⟨-, h1, h2⟩ := sr_dark0 hk
  exact SR_more (dark_rel h h1) (by omega)
theorem sr_dark_e {n : Int32} (h : SR S N R P B) (hk : kDark n = 0) : mDk N (cN n) P 0 = S 12 0 + n := by
  obtain ⟨e, h1, h2⟩ := sr_dark0 hk
  rw [dark_0 h h1, ← e]
theorem sr_prom0 {r : Int32} (h : SR S N R P B) (hk : kPromote S P r = 0) : cN r < R ∧ ¬ (prm S (cN r) P P).2 = -1 := by
  unfold kPromote at hk
  by_cases c1 : isRo S r
  · rw [if_neg (fun z => z c1)] at hk
    refine ⟨(sr_ro h c1).2, fun z => ?_⟩
    rw [if_pos z] at hk
    exact absurd hk (by decide)
  · rw [if_pos c1] at hk
    exact absurd hk (by decide)
theorem sr_prom_e {r : Int32} (h : SR S N R P B) (hk : kPromote S P r = 0) : prM N (cN r) P (N (18 + cN r)) = (prm S (cN r) P P).2 := (prom_eq h (sr_prom0 h hk).1).2 (sr_prom0 h hk).2
theorem sr_promote {r : Int32} (h : SR S N R P B) (hk : kPromote S P r = 0) : SR (hset S 1 (cN r) ((prm S (cN r) P P).2)) (upd N (18 + cN r) (prM N (cN r) P (N (18 + cN r)))) R P (B + 100) := by
  rw [sr_prom_e h hk]
  obtain ⟨q, hq, e⟩ := (prm_nat S (cN r) P P).resolve_left (sr_prom0 h hk).2
  rw [e]
  exact SR_more (first_rel h hq (sr_prom0 h hk).1) (by omega)
theorem sr_set0 {w v : Int32} (hk : kSet w v = 0) : cN w < 5 := by
  unfold kSet at hk
  by_cases c : inR w 0 4 ∧ inR v (sLst (cN w)) (sMst (cN w))
  · have := rng_cN (lo := 0) (hi := 4) c.1 (by decide)
    omega
  · rw [if_neg c] at hk
    exact absurd hk (by decide)
theorem sr_deg0 {p r : Int32} (hk : kDeg S p r = 0) : isPl S p ∧ isRo S r := by
  unfold kDeg at hk
  by_cases c : isPl S p ∧ isRo S r
  · exact c
  · rw [if_neg c] at hk
    exact absurd hk (by decide)
theorem sr_with0 {p : Int32} (hk : kWith S p = 0) : isPl S p := by
  unfold kWith at hk
  by_cases c : isPl S p
  · exact c
  · rw [if_neg c] at hk
    exact absurd hk (by decide)
theorem sr_slot0 {v : Int32} (hk : kSlot v = 0) : cN v < 2 := by
  unfold kSlot at hk
  by_cases c : inR v 0 1
  · have := rng_cN (lo := 0) (hi := 1) c (by decide)
    omega
  · rw [if_neg c] at hk
    exact absurd hk (by decide)
theorem sr_rest_k {V W9 : Nat → Int32} {v : Int32} (h : ∀ k, k < 2 → W9 k = V k) : kRest W9 v = kRest V v := by
  unfold kRest
  by_cases c : inR v 0 1
  · have := rng_cN (lo := 0) (hi := 1) c (by decide)
    rw [h _ (by omega)]
  · rw [if_pos c, if_pos c]
theorem sr_rest0 {V : Nat → Int32} {v : Int32} (hk : kRest V v = 0) : cN v < 2 ∧ ¬ V (cN v) = 0 := by
  unfold kRest at hk
  by_cases c : inR v 0 1
  · rw [if_neg (fun z => z c)] at hk
    have := rng_cN (lo := 0) (hi := 1) c (by decide)
    refine ⟨by omega, fun z => ?_⟩
    rw [if_pos z] at hk
    exact absurd hk (by decide)
  · rw [if_pos c] at hk
    exact absurd hk (by decide)
theorem sr_undo0 {cn : Nat} (hk : kUndo cn = 0) : ¬ cn = 0 := by
  unfold kUndo at hk
  intro z
  rw [if_pos z] at hk
  exact absurd hk (by decide)
theorem sr_app0 {L : Nat} {v : Int32} (hk : kAppend L v = 0) : L < 120 ∧ v = nI (cN v) ∧ cN v < 256 := by
  unfold kAppend at hk
  by_cases c : inR v 0 255
  · rw [if_neg (fun z => z c)] at hk
    obtain ⟨e, -, h2⟩ := rng_cN (lo := 0) (hi := 255) c (by decide)
    refine ⟨Nat.lt_of_not_le fun z => ?_, e, by omega⟩
    rw [if_pos z] at hk
    exact absurd hk (by decide)
  · rw [if_pos c] at hk
    exact absurd hk (by decide)
theorem up0 {w : Int32} {n : Int32} (hk : kUp w n = 0) : inR w 0 n := by
  unfold kUp at hk
  by_cases c : inR w 0 n
  · exact c
  · rw [if_neg c] at hk
    exact absurd hk (by decide)
theorem sr_load0 {ch : Nat → Nat} {L : Nat} (hk : kLoad ch L = 0) : ferF ch L = -1 := by
  unfold kLoad at hk
  by_cases c : ferF ch L = -1
  · exact c
  · rw [if_neg c] at hk
    exact absurd hk (by decide)
theorem sr_rest_v {T S M : HV} {cn nx : Nat} {Ss Sl : Nat → HV} {V : Nat → Int32} {R P L B : Nat} {ch : Nat → Nat} {v : Int32} (h : LI B T S M cn nx Ss Sl V R P L ch) (hk : kRest V v = 0) : M 4 (190 * cN v + 0) = Sl (cN v) 12 0 := by
  obtain ⟨h1, h2⟩ := sr_rest0 hk
  obtain ⟨-, -, -, a1, -, a3⟩ := h
  obtain ⟨R', P', b⟩ := a3 _ h1 ((a1 _ h1).2.resolve_left h2)
  exact rc12 b.2.1
theorem ok_any {N : Nat → Int32} {R P : Nat} (h0 : ∀ r, r < R → ∃ w, 1 ≤ w ∧ w ≤ 9 ∧ N (12 + r) = nI w) (h3 : ∀ p r, p < P → r < R → ∃ v, v ≤ 9 ∧ N (70 + 6 * p + r) = nI v) : mOK N R P := by
  intro p r hp hr
  obtain ⟨w, w1, w2, ew⟩ := h0 r hr
  obtain ⟨v, v2, ev⟩ := h3 p r hp hr
  by_cases c : v = 0
  · subst c
    refine ⟨0, by omega, ?_, fun z => ?_⟩
    · show (if N (70 + 6 * p + r) = 0 then _ else _) = _
      rw [if_pos (show N (70 + 6 * p + r) = 0 from ev)]
      rfl
    · rw [ev] at z
      exact absurd z (by decide)
  · have hne : ¬ N (70 + 6 * p + r) = 0 := by
      rw [ev]
      exact nI_ne0 (by omega) (by omega)
    by_cases d : N (18 + r) = nI p
    · have hle : w * (v + 10) ≤ 9 * 19 := Nat.mul_le_mul w2 (by omega)
      refine ⟨w * (v + 10), by omega, ?_, fun _ => Nat.mul_pos (by omega) (by omega)⟩
      show (if N (70 + 6 * p + r) = 0 then _ else N (12 + r) * (if N (18 + r) = nI p then N (70 + 6 * p + r) + 10 else _)) = _
      rw [if_neg hne, if_pos d, ew, ev, show (10 : Int32) = nI 10 from rfl, nI_add]
      exact (Int32.ofNat_mul _ _).symm
    · have hle : w * v ≤ 9 * 9 := Nat.mul_le_mul w2 v2
      refine ⟨w * v, by omega, ?_, fun _ => Nat.mul_pos (by omega) (by omega)⟩
      show (if N (70 + 6 * p + r) = 0 then _ else N (12 + r) * (if N (18 + r) = nI p then _ else N (70 + 6 * p + r))) = _
      rw [if_neg hne, if_neg d, ew, ev]
      exact (Int32.ofNat_mul _ _).symm
theorem deg_any (h : SR S N R P B) (p0 r0 : Nat) : ∀ d, 1 ≤ d → d < 10 → mOK (mDg N p0 r0 d) R P := by
  intro d h1 h2
  have hR := h.1.1.2
  have hP := h.1.2.1.2
  refine ok_any (fun r hr => ?_) (fun p r hp hr => ?_)
  · obtain ⟨w, a1, a2, a3⟩ := h.1.2.2.2.1 r hr
    refine ⟨w, a1, a2, ?_⟩
    show upd N (70 + 6 * p0 + r0) (nI d) (12 + r) = _
    rw [pk_un (show 12 + r ≠ 70 + 6 * p0 + r0 by omega), rc0 h.2.1 (by omega), a3]
  · show ∃ v, v ≤ 9 ∧ upd N (70 + 6 * p0 + r0) (nI d) (70 + 6 * p + r) = nI v
    by_cases c : 70 + 6 * p + r = 70 + 6 * p0 + r0
    · rw [c, pk_us]
      exact ⟨d, by omega, rfl⟩
    · rw [pk_un c, rc3 h.2.1 (by omega) (by omega)]
      exact h.1.2.2.2.2.1 (r * 10 + p) (by omega)
theorem load_n {ch : Nat → Nat} {L n : Nat} (hL : L ≤ 120) (h : ∀ j, j < n → posC ch j < L) : n ≤ 120 := by
  rcases Nat.eq_zero_or_pos n with z | z
  · omega
  · have h1 := h (n - 1) (by omega)
    have h2 := posC_k (ch := ch) (n - 1)
    omega
end SRA
section LC
variable {p : Program} {l : Launch} {e : Env} {R : Room} {s : State} {m : MethodId} {args : Array Value} {below : List Frame} {meth : Method} {c : Code} {H : Heap} {locs : List Loc} {cells slots : Nat} {Q : State → Prop}
variable {cc : ByteArray} {pc : Nat} {ls : Array Slot} {rest : List Value} {K : KX} {A : Nat → Prop} {ws : va_W}
variable {xs : Nat → Int32} {LL b i B : Nat} {a : LAd} {T S C U M : HV} {cn nx : Nat} {Ss Sl : Nat → HV} {V : Nat → Int32} {RR PP L : Nat} {ch : Nat → Nat} {g9 : Nat → Int64}
/-- a word of the script is read -/
theorem lr_rd (k : Nat) {kI : Int} {lv : List (Nat × Value)} (hx : p.tables.exec = Jvm.exec) (hb : c.code = cc) (hX : va_X b LL xs s s.heap) (hbl : b < s.heap.size) (hbA : ¬ A b) (hLL : LL ≤ 2048) (hS : va_S A s.heap H locs) (hl : lv_has ls 7 lv) (q0 q4 : Nat) (h0 : lv[q0]? = some (0, .ref b)) (h4 : lv[q4]? = some (4, .int (nI i))) (hik : i + k < LL) (d0 : decode cc pc = .ok (.aload_n 0, 1)) (d1 : decode cc (pc + 1) = .ok (.iload 4, 2)) (d2 : decode cc (pc + 3) = .ok (.iconst kI, 1)) (hk : Int32.ofInt kI = nI k) (d3 : decode cc (pc + 4) = .ok (.iadd, 1)) (d4 : decode cc (pc + 5) = .ok (.iaload, 1))
    (kk : W p l e R s m args below meth c H locs cells slots Q (F0 m (pc + 6) ls (.int (xs (i + k)) :: rest))) : W p l e R s m args below meth c H locs cells slots Q (F0 m pc ls rest) := by
  refine lv_aload_n hx hb d0 rfl (lv_at hl q0 h0) ?_
  refine lv_iload hx hb d1 (lv_at hl q4 h4) ?_
  refine lv_iconst (v := nI k) hx hb d2 hk ?_
  refine lv_iadd hx hb d3 ?_
  rw [nI_add]
  refine va_sld hx hb hX hbl hbA hS (vp_in_nI hik (by omega)) d4 ?_
  rw [nI_clamp (by omega)]
  exact kk
/-- the model's method is called, and the rest of the world is set aside -/
theorem pw_Vm {S9 : Type} {post : Int32 → S9 → Prop} {w1 : S9 → va_W} {y : MethodName} {bytes : ByteArray} {maxL nL n index mc ms : Nat} {ret : Option FieldType} {ws9 Ts : List Cond} {rm : Room} {own C : String} {b : Nat} {As st0 : List Value} {w8 wc wr : va_W}
    (S : CallFix p m c cc nL s args Ts own) (hM : Met l y ws9 rm (va_Pc (.ref b :: As) (xPre K wc H.size)) (va_Qi post (fun u t => xPost K (va_A wc H.size) (w1 u) t) (va_A wc H.size)) mc ms (va_A wc H.size)) (cw : CallW R s args own C index y bytes maxL ret ws9 rm mc ms n) (hK : va_K K.1 vwCl (kt K) s) (hP : va_P K.1 vwCl (w8 ++ (wc ++ wr)) H) (hD : va_D A (w8 ++ (wc ++ wr))) (hS : va_S A s.heap H locs) (hA : ∀ q : Nat, s.heap.size ≤ q → A q)
    (q0 ci : Nat) {q : vw_C} {fs : List Value} (hc : vwCl[ci]? = some q) (hqC : q.1 = C) (he : wc[q0]? = some (b, .inr (ci, fs))) (hn : As.length = n) (hsize : ls.size = nL) (hst : st0 = As.reverse ++ .ref b :: rest) (hW : (rest.map fun v => v.category).sum ≤ 8) (hce : cells + mc ≤ R.cells) (hsl : slots + ms ≤ R.slots) (hdg : decode cc pc = .ok (.invokevirtual index, 3))
    (kk : ∀ (r : Int32) (u : S9) (H1 : Heap) (locs1 : List Loc), post r u → va_P K.1 vwCl (w1 u ++ (w8 ++ wr)) H1 → va_D A (w1 u ++ (w8 ++ wr)) → va_S A s.heap H1 locs1 → W p l e R s m args below meth c H1 locs1 (cells + mc) (slots + ms) Q (F0 m (pc + 3) ls (.int r :: rest))) : W p l e R s m args below meth c H locs cells slots Q (F0 m pc ls st0) :=
  pw_Vi S hM cw hK hP hD hS hA (perm_sw w8 wc wr) (fun u => w1 u ++ (w8 ++ wr)) (fun _ => List.Perm.refl _) q0 ci hc hqC he hn hsize hst hW hce hsl hdg kk
/-- a case comes to its end: what was thrown is the same, and what was answered -/
theorem ls_end {r6 r8 : Int32} {kM : Nat} {off : Int} (hx : p.tables.exec = Jvm.exec) (hb : c.code = cL_law) (hml : c.maxLocals = 7) (hown : s.vm.findClass RL = some m.cls) (hts : ∀ w ∈ wsL_law, w.before args s = true) (hK : va_K K.1 vwCl (kt K) s) (hP : va_P K.1 vwCl (catL (LWl K a T S C U M cn nx Ss Sl V g9)) H) (hl : lv_has ls 7 [(5, .int r8), (0, .ref b), (1, .ref a.x), (2, .ref a.y), (3, .ref a.o), (4, .int (nI i))])
    (hce : cells ≤ 601024) (hsl : slots ≤ 7293034) (hM8 : M 8 0 = nI kM) (hkM : kM < 3) (hk : r8 = nI kM) (hv : kM = 0 → g9 0 = r6.toInt64)
    (d0 : decode cL_law pc = .ok (.istore 6, 2)) (d2 : decode cL_law (pc + 2) = .ok (.aload_n 2, 1)) (d3 : decode cL_law (pc + 3) = .ok (.invokevirtual 109, 3)) (d6 : decode cL_law (pc + 6) = .ok (.iload 5, 2)) (d8 : decode cL_law (pc + 8) = .ok (.if_icmp .eq 5, 3)) (d13 : decode cL_law (pc + 13) = .ok (.iload 5, 2)) (d15 : decode cL_law (pc + 15) = .ok (.ifCond .ne 15, 3)) (d18 : decode cL_law (pc + 18) = .ok (.aload_n 3, 1)) (d19 : decode cL_law (pc + 19) = .ok (.iconst 0, 1)) (d20 : decode cL_law (pc + 20) = .ok (.laload, 1)) (d21 : decode cL_law (pc + 21) = .ok (.iload 6, 2)) (d23 : decode cL_law (pc + 23) = .ok (.i2l, 1)) (d24 : decode cL_law (pc + 24) = .ok (.lcmp, 1)) (d25 : decode cL_law (pc + 25) = .ok (.ifCond .eq 5, 3)) (d30 : decode cL_law (pc + 30) = .ok (.goto off, 3)) (ht : ((pc + 30 : Nat) : Int) + off = ((1828 : Nat) : Int))
    (kk : ∀ ls : Array Slot, lv_has ls 7 [(0, .ref b), (1, .ref a.x), (2, .ref a.y), (3, .ref a.o), (4, .int (nI i))] → W p l e room_1 s m args below meth c H locs cells slots Q (F0 m 1828 ls [])) : W p l e room_1 s m args below meth c H locs cells slots Q (F0 m pc ls [.int r6]) := by
  refine lv_istore (lv' := [(6, .int r6), (5, .int r8), (0, .ref b), (1, .ref a.x), (2, .ref a.y), (3, .ref a.o), (4, .int (nI i))]) hx hb d0 hl (by decide) rfl (fun ls hl => ?_)
  refine lv_aload_n hx hb d2 rfl (lv_at hl 4 rfl) ?_
  have hPc : va_P K.1 vwCl (mw K a.y a.ya M) H := (P_app (P_perm (perm_split (LWl K a T S C U M cn nx Ss Sl V g9) 14 rfl [13] [0, 1, 2, 3, 4, 5, 6, 7, 8, 9, 10, 11, 12] (by decide)) hP)).1
  refine xr_V (As := []) (rest := []) ⟨hx, hb, hml, hown, hts⟩ (c_X6_thrown l K a.y a.ya M) (cwV 0 hts gL_law_X6_thrown rfl rfl rfl (by decide +kernel) ⟨Nat.le_of_ble_eq_true rfl, Nat.le_of_ble_eq_true rfl⟩) hK hPc 0 6 rfl rfl rfl rfl hl.1 rfl (Nat.le_of_ble_eq_true rfl) hce hsl d3 ?_
  refine lv_iload hx hb d6 (lv_at hl 1 rfl) ?_
  refine lv_icmp_eq (tgt := pc + 13) hx hb d8 (by omega) (fun _ => ?_) (fun z => absurd (hM8.trans hk.symm) z)
  refine lv_iload hx hb d13 (lv_at hl 1 rfl) ?_
  have hend : W p l e room_1 s m args below meth c H locs cells slots Q (F0 m (pc + 30) ls []) := lv_goto (tgt := 1828) hx hb d30 ht (kk ls (lv_sub hl [2, 3, 4, 5, 6] rfl))
  refine lv_if_ne (tgt := pc + 30) hx hb d15 (by omega) (fun _ => hend) (fun z => ?_)
  have hk0 : kM = 0 := by
    refine Nat.eq_zero_of_not_pos fun q => ?_
    exact nI_ne0 q (by omega) (hk.symm.trans z)
  refine lv_aload_n hx hb d18 rfl (lv_at hl 5 rfl) ?_
  refine lv_iconst (v := (0 : Int32)) hx hb d19 (by decide) ?_
  refine va_lald hx hb hK hP 0 4 (n := 1) (f := g9) rfl rfl (vp_in_nI (show 0 < 1 by decide) (by decide)) d20 ?_
  have hv9 : g9 (Int32.toNatClampNeg 0) = r6.toInt64 := hv hk0
  rw [hv9]
  refine lv_iload hx hb d21 (lv_at hl 0 rfl) ?_
  refine lv_i2l (v := r6.toInt64) hx hb d23 rfl ?_
  refine xl_cmp hx hb d24 (fun z => (Int64.lt_irrefl z).elim) (fun _ => ?_) (fun _ z => absurd rfl z)
  exact lv_if_eq (tgt := pc + 30) hx hb d25 (by omega) (fun _ => hend) (fun z => absurd rfl z)
end LC

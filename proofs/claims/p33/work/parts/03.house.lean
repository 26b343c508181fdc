/-! the house: what its reading methods answer -/
def sumN (f : Nat → Int32) : Nat → Int32 | 0 => 0 | k + 1 => sumN f k + f k
abbrev hFree (S : HV) (p : Nat) : Prop := S 7 p ≤ S 12 0 ∧ S 6 p < S 9 0
def frN (S : HV) : Nat → Nat | 0 => 0 | k + 1 => if hFree S k then frN S k ||| 2 ^ k else frN S k
def frB (S : HV) (b : Nat) : Nat → Nat | 0 => 0 | k + 1 => if hFree S k ∧ k ≠ b then frB S b k ||| 2 ^ k else frB S b k
theorem frN_lt (S : HV) : ∀ k, frN S k < 2 ^ k
  | 0 => by unfold frN; decide
  | k + 1 => by
    have h := frN_lt S k
    have h2 : 2 ^ k < 2 ^ (k + 1) := Nat.pow_lt_pow_right (by decide) (by omega)
    unfold frN
    split
    · exact set_lt (by omega) (by omega)
    · omega
theorem frB_lt (S : HV) (b : Nat) : ∀ k, frB S b k < 2 ^ k
  | 0 => by unfold frB; decide
  | k + 1 => by
    have h := frB_lt S b k
    have h2 : 2 ^ k < 2 ^ (k + 1) := Nat.pow_lt_pow_right (by decide) (by omega)
    unfold frB
    split
    · exact set_lt (by omega) (by omega)
    · omega
theorem frN_bit (S : HV) (q : Nat) : ∀ k, (frN S k).testBit q = true ↔ q < k ∧ hFree S q
  | 0 => by simp [frN]
  | k + 1 => by
    have ih := frN_bit S q k
    unfold frN
    split
    · rename_i c
      rw [bit_set, Bool.or_eq_true, ih, decide_eq_true_eq]
      constructor
      · rintro (h | h)
        · exact ⟨by omega, h.2⟩
        · subst h; exact ⟨by omega, c⟩
      · rintro ⟨h1, h2⟩
        by_cases e : k = q
        · exact Or.inr e
        · exact Or.inl ⟨by omega, h2⟩
    · rename_i c
      rw [ih]
      constructor
      · exact fun h => ⟨by omega, h.2⟩
      · rintro ⟨h1, h2⟩
        refine ⟨?_, h2⟩
        rcases Nat.lt_or_eq_of_le (Nat.le_of_lt_succ h1) with e | e
        · exact e
        · subst e; exact absurd h2 c
theorem frB_bit (S : HV) (b q : Nat) : ∀ k, (frB S b k).testBit q = true ↔ q < k ∧ hFree S q ∧ q ≠ b
  | 0 => by simp [frB]
  | k + 1 => by
    have ih := frB_bit S b q k
    unfold frB
    split
    · rename_i c
      rw [bit_set, Bool.or_eq_true, ih, decide_eq_true_eq]
      constructor
      · rintro (h | h)
        · exact ⟨by omega, h.2⟩
        · subst h; exact ⟨by omega, c⟩
      · rintro ⟨h1, h2⟩
        by_cases e : k = q
        · exact Or.inr e
        · exact Or.inl ⟨by omega, h2⟩
    · rename_i c
      rw [ih]
      constructor
      · exact fun h => ⟨by omega, h.2⟩
      · rintro ⟨h1, h2⟩
        refine ⟨?_, h2⟩
        rcases Nat.lt_or_eq_of_le (Nat.le_of_lt_succ h1) with e | e
        · exact e
        · subst e; exact absurd h2 c
theorem frB_eq (S : HV) {b P : Nat} (hb : b < 10) (hP : P ≤ 10) : nI (frN S P) &&& (((1 : Int32) <<< (nI b &&& 31)) ^^^ (-1)) = nI (frB S b P) := by
  rw [nn_shl1 (rfl : (1 : Int32) = nI 1) (rfl : nI b = nI b) (by omega)]
  apply Int32.toBitVec_inj.1
  apply BitVec.eq_of_getLsbD_eq
  intro i hi
  show (BitVec.ofNat 32 (frN S P) &&& (BitVec.ofNat 32 (2 ^ b) ^^^ (-1 : Int32).toBitVec)).getLsbD i = (BitVec.ofNat 32 (frB S b P)).getLsbD i
  have h1 : (-1 : Int32).toBitVec = BitVec.allOnes 32 := by decide
  rw [h1, BitVec.getLsbD_and, BitVec.getLsbD_xor, BitVec.getLsbD_allOnes, BitVec.getLsbD_ofNat, BitVec.getLsbD_ofNat, BitVec.getLsbD_ofNat, Nat.testBit_two_pow]
  have e1 := frN_bit S i P
  have e2 := frB_bit S b i P
  simp only [hi, decide_true, Bool.true_and]
  by_cases c : b = i
  · subst c
    have e3 : (frB S b P).testBit b = false := by
      cases hq : (frB S b P).testBit b
      · rfl
      · exact absurd rfl (e2.mp hq).2.2
    rw [e3]
    simp
  · have e4 : (frB S b P).testBit i = (frN S P).testBit i := by
      rw [Bool.eq_iff_iff, e1, e2]
      constructor
      · exact fun h => ⟨h.1, h.2.1⟩
      · exact fun h => ⟨h.1, h.2, fun z => c z.symm⟩
    rw [e4]
    simp [c]
def cntC (S : HV) (r : Nat) : Nat → Int32 | 0 => 0 | k + 1 => if hFree S k ∧ 0 < S 3 (r * 10 + k) then cntC S r k + 1 else cntC S r k
def plc (S : HV) (p : Nat) : Nat → Int32 | 0 => 0 | q + 1 => if S 5 p < S 5 q ∨ (S 5 q = S 5 p ∧ q < p) then plc S p q + 1 else plc S p q
def fstF (c : Nat → Bool) : Nat → Nat → Int32 | _, 0 => -1 | i, n + 1 => if c i then nI i else fstF c (i + 1) n
theorem fstF_hit {c : Nat → Bool} {i N : Nat} (h : i < N) (hc : c i = true) : fstF c i (N - i) = nI i := by
  obtain ⟨n, hn⟩ : ∃ n, N - i = n + 1 := ⟨N - i - 1, by omega⟩
  rw [hn, fstF, if_pos hc]
theorem fstF_step {c : Nat → Bool} {i N : Nat} (h : i < N) (hc : ¬ c i = true) : fstF c i (N - i) = fstF c (i + 1) (N - (i + 1)) := by
  obtain ⟨n, hn⟩ : ∃ n, N - i = n + 1 := ⟨N - i - 1, by omega⟩
  rw [hn, fstF, if_neg hc, show N - (i + 1) = n by omega]
theorem fstF_end {c : Nat → Bool} {i N : Nat} (h : N ≤ i) : fstF c i (N - i) = -1 := by
  rw [show N - i = 0 by omega, fstF]
theorem idx_of {x y : Int32} {P : Nat} (hy : y = nI P) (hP : P ≤ 10) (h : 0 ≤ x ∧ x < y) : ∃ q : Nat, q < P ∧ x = nI q := by
  obtain ⟨j, hj, e⟩ := nI_of (x := x) (Int32.not_lt.mpr h.1)
  exact ⟨j, (nn_lt e hy hj (by omega)).mp h.2, e⟩
theorem nI_cl {x : Int32} {q : Nat} (h : x = nI q) (hq : q < 2 ^ 31) : x.toNatClampNeg = q := by rw [h, nI_clamp hq]
def prm0 (S : HV) (r P : Nat) : Int32 := if 0 ≤ S 1 r ∧ S 1 r < S 11 0 then S 4 (r * 10 + (S 1 r).toNatClampNeg) else 0
def prm (S : HV) (r P : Nat) : Nat → Int32 × Int32 | 0 => (prm0 S r P, -1) | k + 1 => if (prm S r P k).1 < S 4 (r * 10 + k) then (S 4 (r * 10 + k), nI k) else prm S r P k
abbrev wOf (S : HV) (p r : Nat) : Int32 := if S 3 (r * 10 + p) = 0 then 0 else S 0 r * (if S 1 r = nI p then S 3 (r * 10 + p) + 10 else S 3 (r * 10 + p))

abbrev rm_X2_cell : Room := { frames := 0, cells := 0, slots := 0, locals := 0 }
set_option maxHeartbeats 4000000 in
set_option maxRecDepth 100000 in
theorem c_X2_cell (l : Launch) (K : KX) (p : Nat) (r : Nat) : Met l yX2_cell wsX2_cell rm_X2_cell (va_Pc [.int (nI p), .int (nI r)] (xRead K ([]))) (vp_Si (fun r9 => r9 = nI (r * 10 + p))) 0 0 (fun _ => False) := by
  refine xr_starti (cc := cX2_cell) (maxL := 2) (by decide) rfl (Nat.le_of_ble_eq_true rfl) ?_
  intro p9 e9 s9 m9 below9 meth9 c9 H ls av9 Q9 hx hb hlocks hml hts hown hK hP hend hl
  have hown : s9.vm.findClass RX2 = some m9.cls := hown
  have hl : lv_has ls 2 [(0, .int (nI p)), (1, .int (nI r))] := hl
  refine lv_iload_n hx hb dX2_cell_0 rfl (lv_at hl 1 rfl) ?_
  refine lv_bipush (v := (10 : Int32)) hx hb dX2_cell_1 (by decide) ?_
  refine lv_imul hx hb dX2_cell_3 ?_
  refine lv_iload_n hx hb dX2_cell_4 rfl (lv_at hl 0 rfl) ?_
  refine lv_iadd hx hb dX2_cell_5 ?_
  exact hend _ _ _ (by exact nn_add (nn_mul rfl rfl) rfl) dX2_cell_6

abbrev rm_X2_hasRole : Room := { frames := 0, cells := 0, slots := 0, locals := 0 }
set_option maxHeartbeats 4000000 in
set_option maxRecDepth 100000 in
theorem c_X2_hasRole (l : Launch) (K : KX) (h : Nat) (a : Nat → Nat) (S : HV) (r : Int32) : Met l yX2_hasRole wsX2_hasRole rm_X2_hasRole (va_Pc [.ref h, .int r] (xRead K (hw K h a S))) (vp_Si (fun r9 => r9 = bI (0 ≤ r ∧ r < S 10 0))) 0 0 (fun _ => False) := by
  refine xr_startz (cc := cX2_hasRole) (maxL := 2) (ret := .boolean) (by decide) rfl (Nat.le_of_ble_eq_true rfl) ?_
  intro p9 e9 s9 m9 below9 meth9 c9 H ls av9 Q9 hx hb hlocks hml hts hown hK hP hend hl
  have hown : s9.vm.findClass RX2 = some m9.cls := hown
  have hl : lv_has ls 2 [(0, .ref h), (1, .int r)] := hl
  have hi2 : ∀ w ∈ u_ws RX2 TX2 17, w ∈ wsX2_hasRole := by decide +kernel
  have lk52 := hts (.fieldLink RX2 52 "StandIns$House" "roles" "I") (by decide +kernel)
  refine lv_iload_n hx hb dX2_hasRole_0 rfl (lv_at hl 1 rfl) ?_
  refine lv_if_lt (tgt := 16) hx hb dX2_hasRole_1 (by decide) (fun c_1 => ?_) (fun c_1 => ?_)
  · skip
    have c_1n := Int32.not_le.mpr c_1
    refine lv_iconst (v := (0 : Int32)) hx hb dX2_hasRole_16 (by decide) ?_
    exact hend _ _ _ (by decide) (by first | rfl | (simp [bI, c_1, c_1n]; done) | omega) dX2_hasRole_17
  · skip
    have c_1n := Int32.not_lt.mp c_1
    refine lv_iload_n hx hb dX2_hasRole_4 rfl (lv_at hl 1 rfl) ?_
    refine lv_aload_n hx hb dX2_hasRole_5 rfl (lv_at hl 0 rfl) ?_
    refine va_get (ci := 2) (v := .int (S 10 0)) (C := RX2) (T := TX2) (N := 17) hx hb hts hi2 hown hK hP 0 rfl rfl 10 (by decide) lk52 (fun _ h9 => h9) rfl dX2_hasRole_6 ?_
    refine lv_icmp_ge (tgt := 16) hx hb dX2_hasRole_9 (by decide) (fun c_9 => ?_) (fun c_9 => ?_)
    · skip
      have c_9n := Int32.not_lt.mpr c_9
      refine lv_iconst (v := (0 : Int32)) hx hb dX2_hasRole_16 (by decide) ?_
      exact hend _ _ _ (by decide) (by first | rfl | (simp [bI, c_1, c_1n, c_9, c_9n]; done) | omega) dX2_hasRole_17
    · skip
      have c_9n := Int32.not_le.mp c_9
      refine lv_iconst (v := (1 : Int32)) hx hb dX2_hasRole_12 (by decide) ?_
      refine lv_goto (tgt := 17) hx hb dX2_hasRole_13 (by decide) ?_
      exact hend _ _ _ (by decide) (by first | rfl | (simp [bI, c_1, c_1n, c_9, c_9n]; done) | omega) dX2_hasRole_17

abbrev rm_X2_hasPlayer : Room := { frames := 0, cells := 0, slots := 0, locals := 0 }
set_option maxHeartbeats 4000000 in
set_option maxRecDepth 100000 in
theorem c_X2_hasPlayer (l : Launch) (K : KX) (h : Nat) (a : Nat → Nat) (S : HV) (p : Int32) : Met l yX2_hasPlayer wsX2_hasPlayer rm_X2_hasPlayer (va_Pc [.ref h, .int p] (xRead K (hw K h a S))) (vp_Si (fun r9 => r9 = bI (0 ≤ p ∧ p < S 11 0))) 0 0 (fun _ => False) := by
  refine xr_startz (cc := cX2_hasPlayer) (maxL := 2) (ret := .boolean) (by decide) rfl (Nat.le_of_ble_eq_true rfl) ?_
  intro p9 e9 s9 m9 below9 meth9 c9 H ls av9 Q9 hx hb hlocks hml hts hown hK hP hend hl
  have hown : s9.vm.findClass RX2 = some m9.cls := hown
  have hl : lv_has ls 2 [(0, .ref h), (1, .int p)] := hl
  have hi2 : ∀ w ∈ u_ws RX2 TX2 17, w ∈ wsX2_hasPlayer := by decide +kernel
  have lk56 := hts (.fieldLink RX2 56 "StandIns$House" "players" "I") (by decide +kernel)
  refine lv_iload_n hx hb dX2_hasPlayer_0 rfl (lv_at hl 1 rfl) ?_
  refine lv_if_lt (tgt := 16) hx hb dX2_hasPlayer_1 (by decide) (fun c_1 => ?_) (fun c_1 => ?_)
  · skip
    have c_1n := Int32.not_le.mpr c_1
    refine lv_iconst (v := (0 : Int32)) hx hb dX2_hasPlayer_16 (by decide) ?_
    exact hend _ _ _ (by decide) (by first | rfl | (simp [bI, c_1, c_1n]; done) | omega) dX2_hasPlayer_17
  · skip
    have c_1n := Int32.not_lt.mp c_1
    refine lv_iload_n hx hb dX2_hasPlayer_4 rfl (lv_at hl 1 rfl) ?_
    refine lv_aload_n hx hb dX2_hasPlayer_5 rfl (lv_at hl 0 rfl) ?_
    refine va_get (ci := 2) (v := .int (S 11 0)) (C := RX2) (T := TX2) (N := 17) hx hb hts hi2 hown hK hP 0 rfl rfl 11 (by decide) lk56 (fun _ h9 => h9) rfl dX2_hasPlayer_6 ?_
    refine lv_icmp_ge (tgt := 16) hx hb dX2_hasPlayer_9 (by decide) (fun c_9 => ?_) (fun c_9 => ?_)
    · skip
      have c_9n := Int32.not_lt.mpr c_9
      refine lv_iconst (v := (0 : Int32)) hx hb dX2_hasPlayer_16 (by decide) ?_
      exact hend _ _ _ (by decide) (by first | rfl | (simp [bI, c_1, c_1n, c_9, c_9n]; done) | omega) dX2_hasPlayer_17
    · skip
      have c_9n := Int32.not_le.mp c_9
      refine lv_iconst (v := (1 : Int32)) hx hb dX2_hasPlayer_12 (by decide) ?_
      refine lv_goto (tgt := 17) hx hb dX2_hasPlayer_13 (by decide) ?_
      exact hend _ _ _ (by decide) (by first | rfl | (simp [bI, c_1, c_1n, c_9, c_9n]; done) | omega) dX2_hasPlayer_17

abbrev rm_X2_roleCount : Room := { frames := 0, cells := 0, slots := 0, locals := 0 }
set_option maxHeartbeats 4000000 in
set_option maxRecDepth 100000 in
theorem c_X2_roleCount (l : Launch) (K : KX) (h : Nat) (a : Nat → Nat) (S : HV) : Met l yX2_roleCount wsX2_roleCount rm_X2_roleCount (va_Pc [.ref h] (xRead K (hw K h a S))) (vp_Si (fun r9 => r9 = S 10 0)) 0 0 (fun _ => False) := by
  refine xr_starti (cc := cX2_roleCount) (maxL := 1) (by decide) rfl (Nat.le_of_ble_eq_true rfl) ?_
  intro p9 e9 s9 m9 below9 meth9 c9 H ls av9 Q9 hx hb hlocks hml hts hown hK hP hend hl
  have hown : s9.vm.findClass RX2 = some m9.cls := hown
  have hl : lv_has ls 1 [(0, .ref h)] := hl
  have hi2 : ∀ w ∈ u_ws RX2 TX2 17, w ∈ wsX2_roleCount := by decide +kernel
  have lk52 := hts (.fieldLink RX2 52 "StandIns$House" "roles" "I") (by decide +kernel)
  refine lv_aload_n hx hb dX2_roleCount_0 rfl (lv_at hl 0 rfl) ?_
  refine va_get (ci := 2) (v := .int (S 10 0)) (C := RX2) (T := TX2) (N := 17) hx hb hts hi2 hown hK hP 0 rfl rfl 10 (by decide) lk52 (fun _ h9 => h9) rfl dX2_roleCount_1 ?_
  exact hend _ _ _ (by first | rfl | (simp; done) | omega) dX2_roleCount_4

abbrev rm_X2_playerCount : Room := { frames := 0, cells := 0, slots := 0, locals := 0 }
set_option maxHeartbeats 4000000 in
set_option maxRecDepth 100000 in
theorem c_X2_playerCount (l : Launch) (K : KX) (h : Nat) (a : Nat → Nat) (S : HV) : Met l yX2_playerCount wsX2_playerCount rm_X2_playerCount (va_Pc [.ref h] (xRead K (hw K h a S))) (vp_Si (fun r9 => r9 = S 11 0)) 0 0 (fun _ => False) := by
  refine xr_starti (cc := cX2_playerCount) (maxL := 1) (by decide) rfl (Nat.le_of_ble_eq_true rfl) ?_
  intro p9 e9 s9 m9 below9 meth9 c9 H ls av9 Q9 hx hb hlocks hml hts hown hK hP hend hl
  have hown : s9.vm.findClass RX2 = some m9.cls := hown
  have hl : lv_has ls 1 [(0, .ref h)] := hl
  have hi2 : ∀ w ∈ u_ws RX2 TX2 17, w ∈ wsX2_playerCount := by decide +kernel
  have lk56 := hts (.fieldLink RX2 56 "StandIns$House" "players" "I") (by decide +kernel)
  refine lv_aload_n hx hb dX2_playerCount_0 rfl (lv_at hl 0 rfl) ?_
  refine va_get (ci := 2) (v := .int (S 11 0)) (C := RX2) (T := TX2) (N := 17) hx hb hts hi2 hown hK hP 0 rfl rfl 11 (by decide) lk56 (fun _ h9 => h9) rfl dX2_playerCount_1 ?_
  exact hend _ _ _ (by first | rfl | (simp; done) | omega) dX2_playerCount_4

abbrev rm_X2_dayNow : Room := { frames := 0, cells := 0, slots := 0, locals := 0 }
set_option maxHeartbeats 4000000 in
set_option maxRecDepth 100000 in
theorem c_X2_dayNow (l : Launch) (K : KX) (h : Nat) (a : Nat → Nat) (S : HV) : Met l yX2_dayNow wsX2_dayNow rm_X2_dayNow (va_Pc [.ref h] (xRead K (hw K h a S))) (vp_Si (fun r9 => r9 = S 12 0)) 0 0 (fun _ => False) := by
  refine xr_starti (cc := cX2_dayNow) (maxL := 1) (by decide) rfl (Nat.le_of_ble_eq_true rfl) ?_
  intro p9 e9 s9 m9 below9 meth9 c9 H ls av9 Q9 hx hb hlocks hml hts hown hK hP hend hl
  have hown : s9.vm.findClass RX2 = some m9.cls := hown
  have hl : lv_has ls 1 [(0, .ref h)] := hl
  have hi2 : ∀ w ∈ u_ws RX2 TX2 17, w ∈ wsX2_dayNow := by decide +kernel
  have lk59 := hts (.fieldLink RX2 59 "StandIns$House" "today" "I") (by decide +kernel)
  refine lv_aload_n hx hb dX2_dayNow_0 rfl (lv_at hl 0 rfl) ?_
  refine va_get (ci := 2) (v := .int (S 12 0)) (C := RX2) (T := TX2) (N := 17) hx hb hts hi2 hown hK hP 0 rfl rfl 12 (by decide) lk59 (fun _ h9 => h9) rfl dX2_dayNow_1 ?_
  exact hend _ _ _ (by first | rfl | (simp; done) | omega) dX2_dayNow_4

abbrev rm_X2_performedCount : Room := { frames := 0, cells := 0, slots := 0, locals := 0 }
set_option maxHeartbeats 4000000 in
set_option maxRecDepth 100000 in
theorem c_X2_performedCount (l : Launch) (K : KX) (h : Nat) (a : Nat → Nat) (S : HV) : Met l yX2_performedCount wsX2_performedCount rm_X2_performedCount (va_Pc [.ref h] (xRead K (hw K h a S))) (vp_Si (fun r9 => r9 = S 13 0)) 0 0 (fun _ => False) := by
  refine xr_starti (cc := cX2_performedCount) (maxL := 1) (by decide) rfl (Nat.le_of_ble_eq_true rfl) ?_
  intro p9 e9 s9 m9 below9 meth9 c9 H ls av9 Q9 hx hb hlocks hml hts hown hK hP hend hl
  have hown : s9.vm.findClass RX2 = some m9.cls := hown
  have hl : lv_has ls 1 [(0, .ref h)] := hl
  have hi2 : ∀ w ∈ u_ws RX2 TX2 17, w ∈ wsX2_performedCount := by decide +kernel
  have lk62 := hts (.fieldLink RX2 62 "StandIns$House" "performed" "I") (by decide +kernel)
  refine lv_aload_n hx hb dX2_performedCount_0 rfl (lv_at hl 0 rfl) ?_
  refine va_get (ci := 2) (v := .int (S 13 0)) (C := RX2) (T := TX2) (N := 17) hx hb hts hi2 hown hK hP 0 rfl rfl 13 (by decide) lk62 (fun _ h9 => h9) rfl dX2_performedCount_1 ?_
  exact hend _ _ _ (by first | rfl | (simp; done) | omega) dX2_performedCount_4

abbrev rm_X2_calledOffCount : Room := { frames := 0, cells := 0, slots := 0, locals := 0 }
set_option maxHeartbeats 4000000 in
set_option maxRecDepth 100000 in
theorem c_X2_calledOffCount (l : Launch) (K : KX) (h : Nat) (a : Nat → Nat) (S : HV) : Met l yX2_calledOffCount wsX2_calledOffCount rm_X2_calledOffCount (va_Pc [.ref h] (xRead K (hw K h a S))) (vp_Si (fun r9 => r9 = S 14 0)) 0 0 (fun _ => False) := by
  refine xr_starti (cc := cX2_calledOffCount) (maxL := 1) (by decide) rfl (Nat.le_of_ble_eq_true rfl) ?_
  intro p9 e9 s9 m9 below9 meth9 c9 H ls av9 Q9 hx hb hlocks hml hts hown hK hP hend hl
  have hown : s9.vm.findClass RX2 = some m9.cls := hown
  have hl : lv_has ls 1 [(0, .ref h)] := hl
  have hi2 : ∀ w ∈ u_ws RX2 TX2 17, w ∈ wsX2_calledOffCount := by decide +kernel
  have lk65 := hts (.fieldLink RX2 65 "StandIns$House" "calledOff" "I") (by decide +kernel)
  refine lv_aload_n hx hb dX2_calledOffCount_0 rfl (lv_at hl 0 rfl) ?_
  refine va_get (ci := 2) (v := .int (S 14 0)) (C := RX2) (T := TX2) (N := 17) hx hb hts hi2 hown hK hP 0 rfl rfl 14 (by decide) lk65 (fun _ h9 => h9) rfl dX2_calledOffCount_1 ?_
  exact hend _ _ _ (by first | rfl | (simp; done) | omega) dX2_calledOffCount_4

abbrev rm_X2_standInCount : Room := { frames := 0, cells := 0, slots := 0, locals := 0 }
set_option maxHeartbeats 4000000 in
set_option maxRecDepth 100000 in
theorem c_X2_standInCount (l : Launch) (K : KX) (h : Nat) (a : Nat → Nat) (S : HV) : Met l yX2_standInCount wsX2_standInCount rm_X2_standInCount (va_Pc [.ref h] (xRead K (hw K h a S))) (vp_Si (fun r9 => r9 = S 15 0)) 0 0 (fun _ => False) := by
  refine xr_starti (cc := cX2_standInCount) (maxL := 1) (by decide) rfl (Nat.le_of_ble_eq_true rfl) ?_
  intro p9 e9 s9 m9 below9 meth9 c9 H ls av9 Q9 hx hb hlocks hml hts hown hK hP hend hl
  have hown : s9.vm.findClass RX2 = some m9.cls := hown
  have hl : lv_has ls 1 [(0, .ref h)] := hl
  have hi2 : ∀ w ∈ u_ws RX2 TX2 17, w ∈ wsX2_standInCount := by decide +kernel
  have lk68 := hts (.fieldLink RX2 68 "StandIns$House" "standIns" "I") (by decide +kernel)
  refine lv_aload_n hx hb dX2_standInCount_0 rfl (lv_at hl 0 rfl) ?_
  refine va_get (ci := 2) (v := .int (S 15 0)) (C := RX2) (T := TX2) (N := 17) hx hb hts hi2 hown hK hP 0 rfl rfl 15 (by decide) lk68 (fun _ h9 => h9) rfl dX2_standInCount_1 ?_
  exact hend _ _ _ (by first | rfl | (simp; done) | omega) dX2_standInCount_4

abbrev rm_X2_isPosted : Room := { frames := 0, cells := 0, slots := 0, locals := 0 }
set_option maxHeartbeats 4000000 in
set_option maxRecDepth 100000 in
theorem c_X2_isPosted (l : Launch) (K : KX) (h : Nat) (a : Nat → Nat) (S : HV) (hz : S 16 0 = 0 ∨ S 16 0 = 1) : Met l yX2_isPosted wsX2_isPosted rm_X2_isPosted (va_Pc [.ref h] (xRead K (hw K h a S))) (vp_Si (fun r9 => r9 = S 16 0)) 0 0 (fun _ => False) := by
  refine xr_startz (cc := cX2_isPosted) (maxL := 1) (ret := .boolean) (by decide) rfl (Nat.le_of_ble_eq_true rfl) ?_
  intro p9 e9 s9 m9 below9 meth9 c9 H ls av9 Q9 hx hb hlocks hml hts hown hK hP hend hl
  have hown : s9.vm.findClass RX2 = some m9.cls := hown
  have hl : lv_has ls 1 [(0, .ref h)] := hl
  have hi2 : ∀ w ∈ u_ws RX2 TX2 17, w ∈ wsX2_isPosted := by decide +kernel
  have lk71 := hts (.fieldLink RX2 71 "StandIns$House" "posted" "Z") (by decide +kernel)
  refine lv_aload_n hx hb dX2_isPosted_0 rfl (lv_at hl 0 rfl) ?_
  refine va_get (ci := 2) (v := .int (S 16 0)) (C := RX2) (T := TX2) (N := 17) hx hb hts hi2 hown hK hP 0 rfl rfl 16 (by decide) lk71 (fun _ h9 => h9) rfl dX2_isPosted_1 ?_
  exact hend _ _ _ (by rcases hz with h | h <;> rw [h] <;> rfl) (by first | rfl | (simp; done) | omega) dX2_isPosted_4

abbrev rm_X2_weightOf : Room := { frames := 0, cells := 0, slots := 0, locals := 0 }
set_option maxHeartbeats 4000000 in
set_option maxRecDepth 100000 in
theorem c_X2_weightOf (l : Launch) (K : KX) (h : Nat) (a : Nat → Nat) (S : HV) (p : Nat) (hp : p < 6) : Met l yX2_weightOf wsX2_weightOf rm_X2_weightOf (va_Pc [.ref h, .int (nI p)] (xRead K (hw K h a S))) (vp_Si (fun r9 => r9 = S 0 p)) 0 0 (fun _ => False) := by
  refine xr_starti (cc := cX2_weightOf) (maxL := 2) (by decide) rfl (Nat.le_of_ble_eq_true rfl) ?_
  intro p9 e9 s9 m9 below9 meth9 c9 H ls av9 Q9 hx hb hlocks hml hts hown hK hP hend hl
  have hown : s9.vm.findClass RX2 = some m9.cls := hown
  have hl : lv_has ls 2 [(0, .ref h), (1, .int (nI p))] := hl
  have hi2 : ∀ w ∈ u_ws RX2 TX2 17, w ∈ wsX2_weightOf := by decide +kernel
  have lk9 := hts (.fieldLink RX2 9 "StandIns$House" "weights" "[I") (by decide +kernel)
  refine lv_aload_n hx hb dX2_weightOf_0 rfl (lv_at hl 0 rfl) ?_
  refine va_get (ci := 2) (v := .ref (a 0)) (C := RX2) (T := TX2) (N := 17) hx hb hts hi2 hown hK hP 0 rfl rfl 0 (by decide) lk9 (fun _ h9 => h9) rfl dX2_weightOf_1 ?_
  refine lv_iload_n hx hb dX2_weightOf_4 rfl (lv_at hl 1 rfl) ?_
  refine xi_ld hx hb hK hP 1 (f := S 0) rfl p rfl (by omega) (by decide) dX2_weightOf_5 ?_
  exact hend _ _ _ (by first | rfl | (simp; done) | omega) dX2_weightOf_6

abbrev rm_X2_firstOf : Room := { frames := 0, cells := 0, slots := 0, locals := 0 }
set_option maxHeartbeats 4000000 in
set_option maxRecDepth 100000 in
theorem c_X2_firstOf (l : Launch) (K : KX) (h : Nat) (a : Nat → Nat) (S : HV) (p : Nat) (hp : p < 6) : Met l yX2_firstOf wsX2_firstOf rm_X2_firstOf (va_Pc [.ref h, .int (nI p)] (xRead K (hw K h a S))) (vp_Si (fun r9 => r9 = S 1 p)) 0 0 (fun _ => False) := by
  refine xr_starti (cc := cX2_firstOf) (maxL := 2) (by decide) rfl (Nat.le_of_ble_eq_true rfl) ?_
  intro p9 e9 s9 m9 below9 meth9 c9 H ls av9 Q9 hx hb hlocks hml hts hown hK hP hend hl
  have hown : s9.vm.findClass RX2 = some m9.cls := hown
  have hl : lv_has ls 2 [(0, .ref h), (1, .int (nI p))] := hl
  have hi2 : ∀ w ∈ u_ws RX2 TX2 17, w ∈ wsX2_firstOf := by decide +kernel
  have lk15 := hts (.fieldLink RX2 15 "StandIns$House" "firstPlayers" "[I") (by decide +kernel)
  refine lv_aload_n hx hb dX2_firstOf_0 rfl (lv_at hl 0 rfl) ?_
  refine va_get (ci := 2) (v := .ref (a 1)) (C := RX2) (T := TX2) (N := 17) hx hb hts hi2 hown hK hP 0 rfl rfl 1 (by decide) lk15 (fun _ h9 => h9) rfl dX2_firstOf_1 ?_
  refine lv_iload_n hx hb dX2_firstOf_4 rfl (lv_at hl 1 rfl) ?_
  refine xi_ld hx hb hK hP 2 (f := S 1) rfl p rfl (by omega) (by decide) dX2_firstOf_5 ?_
  exact hend _ _ _ (by first | rfl | (simp; done) | omega) dX2_firstOf_6

abbrev rm_X2_payOf : Room := { frames := 0, cells := 0, slots := 0, locals := 0 }
set_option maxHeartbeats 4000000 in
set_option maxRecDepth 100000 in
theorem c_X2_payOf (l : Launch) (K : KX) (h : Nat) (a : Nat → Nat) (S : HV) (p : Nat) (hp : p < 10) : Met l yX2_payOf wsX2_payOf rm_X2_payOf (va_Pc [.ref h, .int (nI p)] (xRead K (hw K h a S))) (vp_Si (fun r9 => r9 = S 5 p)) 0 0 (fun _ => False) := by
  refine xr_starti (cc := cX2_payOf) (maxL := 2) (by decide) rfl (Nat.le_of_ble_eq_true rfl) ?_
  intro p9 e9 s9 m9 below9 meth9 c9 H ls av9 Q9 hx hb hlocks hml hts hown hK hP hend hl
  have hown : s9.vm.findClass RX2 = some m9.cls := hown
  have hl : lv_has ls 2 [(0, .ref h), (1, .int (nI p))] := hl
  have hi2 : ∀ w ∈ u_ws RX2 TX2 17, w ∈ wsX2_payOf := by decide +kernel
  have lk27 := hts (.fieldLink RX2 27 "StandIns$House" "pays" "[I") (by decide +kernel)
  refine lv_aload_n hx hb dX2_payOf_0 rfl (lv_at hl 0 rfl) ?_
  refine va_get (ci := 2) (v := .ref (a 5)) (C := RX2) (T := TX2) (N := 17) hx hb hts hi2 hown hK hP 0 rfl rfl 5 (by decide) lk27 (fun _ h9 => h9) rfl dX2_payOf_1 ?_
  refine lv_iload_n hx hb dX2_payOf_4 rfl (lv_at hl 1 rfl) ?_
  refine xi_ld hx hb hK hP 6 (f := S 5) rfl p rfl (by omega) (by decide) dX2_payOf_5 ?_
  exact hend _ _ _ (by first | rfl | (simp; done) | omega) dX2_payOf_6

abbrev rm_X2_rowOf : Room := { frames := 0, cells := 0, slots := 0, locals := 0 }
set_option maxHeartbeats 4000000 in
set_option maxRecDepth 100000 in
theorem c_X2_rowOf (l : Launch) (K : KX) (h : Nat) (a : Nat → Nat) (S : HV) (p : Nat) (hp : p < 10) : Met l yX2_rowOf wsX2_rowOf rm_X2_rowOf (va_Pc [.ref h, .int (nI p)] (xRead K (hw K h a S))) (vp_Si (fun r9 => r9 = S 6 p)) 0 0 (fun _ => False) := by
  refine xr_starti (cc := cX2_rowOf) (maxL := 2) (by decide) rfl (Nat.le_of_ble_eq_true rfl) ?_
  intro p9 e9 s9 m9 below9 meth9 c9 H ls av9 Q9 hx hb hlocks hml hts hown hK hP hend hl
  have hown : s9.vm.findClass RX2 = some m9.cls := hown
  have hl : lv_has ls 2 [(0, .ref h), (1, .int (nI p))] := hl
  have hi2 : ∀ w ∈ u_ws RX2 TX2 17, w ∈ wsX2_rowOf := by decide +kernel
  have lk30 := hts (.fieldLink RX2 30 "StandIns$House" "rows" "[I") (by decide +kernel)
  refine lv_aload_n hx hb dX2_rowOf_0 rfl (lv_at hl 0 rfl) ?_
  refine va_get (ci := 2) (v := .ref (a 6)) (C := RX2) (T := TX2) (N := 17) hx hb hts hi2 hown hK hP 0 rfl rfl 6 (by decide) lk30 (fun _ h9 => h9) rfl dX2_rowOf_1 ?_
  refine lv_iload_n hx hb dX2_rowOf_4 rfl (lv_at hl 1 rfl) ?_
  refine xi_ld hx hb hK hP 7 (f := S 6) rfl p rfl (by omega) (by decide) dX2_rowOf_5 ?_
  exact hend _ _ _ (by first | rfl | (simp; done) | omega) dX2_rowOf_6

abbrev rm_X2_showsOf : Room := { frames := 0, cells := 0, slots := 0, locals := 0 }
set_option maxHeartbeats 4000000 in
set_option maxRecDepth 100000 in
theorem c_X2_showsOf (l : Launch) (K : KX) (h : Nat) (a : Nat → Nat) (S : HV) (p : Nat) (hp : p < 10) : Met l yX2_showsOf wsX2_showsOf rm_X2_showsOf (va_Pc [.ref h, .int (nI p)] (xRead K (hw K h a S))) (vp_Si (fun r9 => r9 = S 8 p)) 0 0 (fun _ => False) := by
  refine xr_starti (cc := cX2_showsOf) (maxL := 2) (by decide) rfl (Nat.le_of_ble_eq_true rfl) ?_
  intro p9 e9 s9 m9 below9 meth9 c9 H ls av9 Q9 hx hb hlocks hml hts hown hK hP hend hl
  have hown : s9.vm.findClass RX2 = some m9.cls := hown
  have hl : lv_has ls 2 [(0, .ref h), (1, .int (nI p))] := hl
  have hi2 : ∀ w ∈ u_ws RX2 TX2 17, w ∈ wsX2_showsOf := by decide +kernel
  have lk36 := hts (.fieldLink RX2 36 "StandIns$House" "shows" "[I") (by decide +kernel)
  refine lv_aload_n hx hb dX2_showsOf_0 rfl (lv_at hl 0 rfl) ?_
  refine va_get (ci := 2) (v := .ref (a 8)) (C := RX2) (T := TX2) (N := 17) hx hb hts hi2 hown hK hP 0 rfl rfl 8 (by decide) lk36 (fun _ h9 => h9) rfl dX2_showsOf_1 ?_
  refine lv_iload_n hx hb dX2_showsOf_4 rfl (lv_at hl 1 rfl) ?_
  refine xi_ld hx hb hK hP 9 (f := S 8) rfl p rfl (by omega) (by decide) dX2_showsOf_5 ?_
  exact hend _ _ _ (by first | rfl | (simp; done) | omega) dX2_showsOf_6

abbrev rm_X2_settingOf : Room := { frames := 0, cells := 0, slots := 0, locals := 0 }
set_option maxHeartbeats 4000000 in
set_option maxRecDepth 100000 in
theorem c_X2_settingOf (l : Launch) (K : KX) (h : Nat) (a : Nat → Nat) (S : HV) (p : Nat) (hp : p < 5) : Met l yX2_settingOf wsX2_settingOf rm_X2_settingOf (va_Pc [.ref h, .int (nI p)] (xRead K (hw K h a S))) (vp_Si (fun r9 => r9 = S 9 p)) 0 0 (fun _ => False) := by
  refine xr_starti (cc := cX2_settingOf) (maxL := 2) (by decide) rfl (Nat.le_of_ble_eq_true rfl) ?_
  intro p9 e9 s9 m9 below9 meth9 c9 H ls av9 Q9 hx hb hlocks hml hts hown hK hP hend hl
  have hown : s9.vm.findClass RX2 = some m9.cls := hown
  have hl : lv_has ls 2 [(0, .ref h), (1, .int (nI p))] := hl
  have hi2 : ∀ w ∈ u_ws RX2 TX2 17, w ∈ wsX2_settingOf := by decide +kernel
  have lk39 := hts (.fieldLink RX2 39 "StandIns$House" "settings" "[I") (by decide +kernel)
  refine lv_aload_n hx hb dX2_settingOf_0 rfl (lv_at hl 0 rfl) ?_
  refine va_get (ci := 2) (v := .ref (a 9)) (C := RX2) (T := TX2) (N := 17) hx hb hts hi2 hown hK hP 0 rfl rfl 9 (by decide) lk39 (fun _ h9 => h9) rfl dX2_settingOf_1 ?_
  refine lv_iload_n hx hb dX2_settingOf_4 rfl (lv_at hl 1 rfl) ?_
  refine xi_ld hx hb hK hP 10 (f := S 9) rfl p rfl (by omega) (by decide) dX2_settingOf_5 ?_
  exact hend _ _ _ (by first | rfl | (simp; done) | omega) dX2_settingOf_6

abbrev rm_X2_postedFor : Room := { frames := 0, cells := 0, slots := 0, locals := 0 }
set_option maxHeartbeats 4000000 in
set_option maxRecDepth 100000 in
theorem c_X2_postedFor (l : Launch) (K : KX) (h : Nat) (a : Nat → Nat) (S : HV) (r : Nat) (hr : r < 6) : Met l yX2_postedFor wsX2_postedFor rm_X2_postedFor (va_Pc [.ref h, .int (nI r)] (xRead K (hw K h a S))) (vp_Si (fun r9 => r9 = (if S 16 0 = 0 then -1 else S 2 r))) 0 0 (fun _ => False) := by
  refine xr_starti (cc := cX2_postedFor) (maxL := 2) (by decide) rfl (Nat.le_of_ble_eq_true rfl) ?_
  intro p9 e9 s9 m9 below9 meth9 c9 H ls av9 Q9 hx hb hlocks hml hts hown hK hP hend hl
  have hown : s9.vm.findClass RX2 = some m9.cls := hown
  have hl : lv_has ls 2 [(0, .ref h), (1, .int (nI r))] := hl
  have hi2 : ∀ w ∈ u_ws RX2 TX2 17, w ∈ wsX2_postedFor := by decide +kernel
  have lk71 := hts (.fieldLink RX2 71 "StandIns$House" "posted" "Z") (by decide +kernel)
  have lk18 := hts (.fieldLink RX2 18 "StandIns$House" "postedPlayers" "[I") (by decide +kernel)
  refine lv_aload_n hx hb dX2_postedFor_0 rfl (lv_at hl 0 rfl) ?_
  refine va_get (ci := 2) (v := .int (S 16 0)) (C := RX2) (T := TX2) (N := 17) hx hb hts hi2 hown hK hP 0 rfl rfl 16 (by decide) lk71 (fun _ h9 => h9) rfl dX2_postedFor_1 ?_
  refine lv_if_eq (tgt := 16) hx hb dX2_postedFor_4 (by decide) (fun c_4 => ?_) (fun c_4 => ?_)
  · skip
    refine lv_iconst (v := (-1 : Int32)) hx hb dX2_postedFor_16 (by decide) ?_
    exact hend _ _ _ (by first | rfl | (simp [c_4]; done) | omega) dX2_postedFor_17
  · skip
    refine lv_aload_n hx hb dX2_postedFor_7 rfl (lv_at hl 0 rfl) ?_
    refine va_get (ci := 2) (v := .ref (a 2)) (C := RX2) (T := TX2) (N := 17) hx hb hts hi2 hown hK hP 0 rfl rfl 2 (by decide) lk18 (fun _ h9 => h9) rfl dX2_postedFor_8 ?_
    refine lv_iload_n hx hb dX2_postedFor_11 rfl (lv_at hl 1 rfl) ?_
    refine xi_ld hx hb hK hP 3 (f := S 2) rfl r rfl (by omega) (by decide) dX2_postedFor_12 ?_
    refine lv_goto (tgt := 17) hx hb dX2_postedFor_13 (by decide) ?_
    exact hend _ _ _ (by first | rfl | (simp [c_4]; done) | omega) dX2_postedFor_17

abbrev rm_X2_isFree : Room := { frames := 0, cells := 0, slots := 0, locals := 0 }
set_option maxHeartbeats 4000000 in
set_option maxRecDepth 100000 in
theorem c_X2_isFree (l : Launch) (K : KX) (h : Nat) (a : Nat → Nat) (S : HV) (p : Nat) (hp : p < 10) : Met l yX2_isFree wsX2_isFree rm_X2_isFree (va_Pc [.ref h, .int (nI p)] (xRead K (hw K h a S))) (vp_Si (fun r9 => r9 = bI (hFree S p))) 0 0 (fun _ => False) := by
  refine xr_startz (cc := cX2_isFree) (maxL := 2) (ret := .boolean) (by decide) rfl (Nat.le_of_ble_eq_true rfl) ?_
  intro p9 e9 s9 m9 below9 meth9 c9 H ls av9 Q9 hx hb hlocks hml hts hown hK hP hend hl
  have hown : s9.vm.findClass RX2 = some m9.cls := hown
  have hl : lv_has ls 2 [(0, .ref h), (1, .int (nI p))] := hl
  have hi2 : ∀ w ∈ u_ws RX2 TX2 17, w ∈ wsX2_isFree := by decide +kernel
  have lk33 := hts (.fieldLink RX2 33 "StandIns$House" "backDays" "[I") (by decide +kernel)
  have lk59 := hts (.fieldLink RX2 59 "StandIns$House" "today" "I") (by decide +kernel)
  have lk30 := hts (.fieldLink RX2 30 "StandIns$House" "rows" "[I") (by decide +kernel)
  have lk39 := hts (.fieldLink RX2 39 "StandIns$House" "settings" "[I") (by decide +kernel)
  refine lv_aload_n hx hb dX2_isFree_0 rfl (lv_at hl 0 rfl) ?_
  refine va_get (ci := 2) (v := .ref (a 7)) (C := RX2) (T := TX2) (N := 17) hx hb hts hi2 hown hK hP 0 rfl rfl 7 (by decide) lk33 (fun _ h9 => h9) rfl dX2_isFree_1 ?_
  refine lv_iload_n hx hb dX2_isFree_4 rfl (lv_at hl 1 rfl) ?_
  refine xi_ld hx hb hK hP 8 (f := S 7) rfl p rfl (by omega) (by decide) dX2_isFree_5 ?_
  refine lv_aload_n hx hb dX2_isFree_6 rfl (lv_at hl 0 rfl) ?_
  refine va_get (ci := 2) (v := .int (S 12 0)) (C := RX2) (T := TX2) (N := 17) hx hb hts hi2 hown hK hP 0 rfl rfl 12 (by decide) lk59 (fun _ h9 => h9) rfl dX2_isFree_7 ?_
  refine lv_icmp_gt (tgt := 32) hx hb dX2_isFree_10 (by decide) (fun c_10 => ?_) (fun c_10 => ?_)
  · skip
    have c_10n := Int32.not_le.mpr c_10
    refine lv_iconst (v := (0 : Int32)) hx hb dX2_isFree_32 (by decide) ?_
    exact hend _ _ _ (by decide) (by first | rfl | (simp [bI, c_10, c_10n]; done) | omega) dX2_isFree_33
  · skip
    have c_10n := Int32.not_lt.mp c_10
    refine lv_aload_n hx hb dX2_isFree_13 rfl (lv_at hl 0 rfl) ?_
    refine va_get (ci := 2) (v := .ref (a 6)) (C := RX2) (T := TX2) (N := 17) hx hb hts hi2 hown hK hP 0 rfl rfl 6 (by decide) lk30 (fun _ h9 => h9) rfl dX2_isFree_14 ?_
    refine lv_iload_n hx hb dX2_isFree_17 rfl (lv_at hl 1 rfl) ?_
    refine xi_ld hx hb hK hP 7 (f := S 6) rfl p rfl (by omega) (by decide) dX2_isFree_18 ?_
    refine lv_aload_n hx hb dX2_isFree_19 rfl (lv_at hl 0 rfl) ?_
    refine va_get (ci := 2) (v := .ref (a 9)) (C := RX2) (T := TX2) (N := 17) hx hb hts hi2 hown hK hP 0 rfl rfl 9 (by decide) lk39 (fun _ h9 => h9) rfl dX2_isFree_20 ?_
    refine lv_iconst (v := (0 : Int32)) hx hb dX2_isFree_23 (by decide) ?_
    refine xi_ld hx hb hK hP 10 (f := S 9) rfl 0 rfl (by omega) (by decide) dX2_isFree_24 ?_
    refine lv_icmp_ge (tgt := 32) hx hb dX2_isFree_25 (by decide) (fun c_25 => ?_) (fun c_25 => ?_)
    · skip
      have c_25n := Int32.not_lt.mpr c_25
      refine lv_iconst (v := (0 : Int32)) hx hb dX2_isFree_32 (by decide) ?_
      exact hend _ _ _ (by decide) (by first | rfl | (simp [bI, c_10, c_10n, c_25, c_25n]; done) | omega) dX2_isFree_33
    · skip
      have c_25n := Int32.not_le.mp c_25
      refine lv_iconst (v := (1 : Int32)) hx hb dX2_isFree_28 (by decide) ?_
      refine lv_goto (tgt := 33) hx hb dX2_isFree_29 (by decide) ?_
      exact hend _ _ _ (by decide) (by first | rfl | (simp [bI, c_10, c_10n, c_25, c_25n]; done) | omega) dX2_isFree_33

abbrev rm_X2_degreeOf : Room := { frames := 1, cells := 0, slots := 0, locals := 21 }
set_option maxHeartbeats 4000000 in
set_option maxRecDepth 100000 in
theorem c_X2_degreeOf (l : Launch) (K : KX) (h : Nat) (a : Nat → Nat) (S : HV) (p : Nat) (hp : p < 10) (r : Nat) (hr : r < 6) : Met l yX2_degreeOf wsX2_degreeOf rm_X2_degreeOf (va_Pc [.ref h, .int (nI p), .int (nI r)] (xRead K (hw K h a S))) (vp_Si (fun r9 => r9 = S 3 (r * 10 + p))) 0 0 (fun _ => False) := by
  refine xr_starti (cc := cX2_degreeOf) (maxL := 3) (by decide) rfl (Nat.le_of_ble_eq_true rfl) ?_
  intro p9 e9 s9 m9 below9 meth9 c9 H ls av9 Q9 hx hb hlocks hml hts hown hK hP hend hl
  have hown : s9.vm.findClass RX2 = some m9.cls := hown
  have hl : lv_has ls 3 [(0, .ref h), (1, .int (nI p)), (2, .int (nI r))] := hl
  have hi2 : ∀ w ∈ u_ws RX2 TX2 17, w ∈ wsX2_degreeOf := by decide +kernel
  have lk21 := hts (.fieldLink RX2 21 "StandIns$House" "degrees" "[I") (by decide +kernel)
  refine lv_aload_n hx hb dX2_degreeOf_0 rfl (lv_at hl 0 rfl) ?_
  refine va_get (ci := 2) (v := .ref (a 3)) (C := RX2) (T := TX2) (N := 17) hx hb hts hi2 hown hK hP 0 rfl rfl 3 (by decide) lk21 (fun _ h9 => h9) rfl dX2_degreeOf_1 ?_
  refine lv_iload_n hx hb dX2_degreeOf_4 rfl (lv_at hl 1 rfl) ?_
  refine lv_iload_n hx hb dX2_degreeOf_5 rfl (lv_at hl 2 rfl) ?_
  have hPc := P_sub (ws' := []) hP [] rfl
  refine xr_S (As := [.int (nI p), .int (nI r)]) (rest := [.ref (a 3)]) ⟨hx, hb, hml, hown, hts⟩ (c_X2_cell l K p r) (va_cwS 2 hts gX2_degreeOf_X2_cell rfl rfl rfl (by decide +kernel) ⟨Nat.le_of_ble_eq_true rfl, Nat.le_of_ble_eq_true rfl⟩) hK hPc rfl hl.1 rfl (Nat.le_of_ble_eq_true rfl) (Nat.le_of_ble_eq_true rfl) (Nat.le_of_ble_eq_true rfl) dX2_degreeOf_6 ?_
  refine xi_ld hx hb hK hP 4 (f := S 3) rfl (r * 10 + p) rfl (by omega) (by decide) dX2_degreeOf_9 ?_
  exact hend _ _ _ (by first | rfl | (simp; done) | omega) dX2_degreeOf_10

abbrev rm_X2_timesOf : Room := { frames := 1, cells := 0, slots := 0, locals := 21 }
set_option maxHeartbeats 4000000 in
set_option maxRecDepth 100000 in
theorem c_X2_timesOf (l : Launch) (K : KX) (h : Nat) (a : Nat → Nat) (S : HV) (p : Nat) (hp : p < 10) (r : Nat) (hr : r < 6) : Met l yX2_timesOf wsX2_timesOf rm_X2_timesOf (va_Pc [.ref h, .int (nI p), .int (nI r)] (xRead K (hw K h a S))) (vp_Si (fun r9 => r9 = S 4 (r * 10 + p))) 0 0 (fun _ => False) := by
  refine xr_starti (cc := cX2_timesOf) (maxL := 3) (by decide) rfl (Nat.le_of_ble_eq_true rfl) ?_
  intro p9 e9 s9 m9 below9 meth9 c9 H ls av9 Q9 hx hb hlocks hml hts hown hK hP hend hl
  have hown : s9.vm.findClass RX2 = some m9.cls := hown
  have hl : lv_has ls 3 [(0, .ref h), (1, .int (nI p)), (2, .int (nI r))] := hl
  have hi2 : ∀ w ∈ u_ws RX2 TX2 17, w ∈ wsX2_timesOf := by decide +kernel
  have lk24 := hts (.fieldLink RX2 24 "StandIns$House" "times" "[I") (by decide +kernel)
  refine lv_aload_n hx hb dX2_timesOf_0 rfl (lv_at hl 0 rfl) ?_
  refine va_get (ci := 2) (v := .ref (a 4)) (C := RX2) (T := TX2) (N := 17) hx hb hts hi2 hown hK hP 0 rfl rfl 4 (by decide) lk24 (fun _ h9 => h9) rfl dX2_timesOf_1 ?_
  refine lv_iload_n hx hb dX2_timesOf_4 rfl (lv_at hl 1 rfl) ?_
  refine lv_iload_n hx hb dX2_timesOf_5 rfl (lv_at hl 2 rfl) ?_
  have hPc := P_sub (ws' := []) hP [] rfl
  refine xr_S (As := [.int (nI p), .int (nI r)]) (rest := [.ref (a 4)]) ⟨hx, hb, hml, hown, hts⟩ (c_X2_cell l K p r) (va_cwS 2 hts gX2_timesOf_X2_cell rfl rfl rfl (by decide +kernel) ⟨Nat.le_of_ble_eq_true rfl, Nat.le_of_ble_eq_true rfl⟩) hK hPc rfl hl.1 rfl (Nat.le_of_ble_eq_true rfl) (Nat.le_of_ble_eq_true rfl) (Nat.le_of_ble_eq_true rfl) dX2_timesOf_6 ?_
  refine xi_ld hx hb hK hP 5 (f := S 4) rfl (r * 10 + p) rfl (by omega) (by decide) dX2_timesOf_9 ?_
  exact hend _ _ _ (by first | rfl | (simp; done) | omega) dX2_timesOf_10

abbrev rm_X2_worthOf : Room := { frames := 1, cells := 0, slots := 0, locals := 21 }
set_option maxHeartbeats 4000000 in
set_option maxRecDepth 100000 in
theorem c_X2_worthOf (l : Launch) (K : KX) (h : Nat) (a : Nat → Nat) (S : HV) (p : Nat) (hp : p < 10) (r : Nat) (hr : r < 6) : Met l yX2_worthOf wsX2_worthOf rm_X2_worthOf (va_Pc [.ref h, .int (nI p), .int (nI r)] (xRead K (hw K h a S))) (vp_Si (fun r9 => r9 = wOf S p r)) 0 0 (fun _ => False) := by
  refine xr_starti (cc := cX2_worthOf) (maxL := 4) (by decide) rfl (Nat.le_of_ble_eq_true rfl) ?_
  intro p9 e9 s9 m9 below9 meth9 c9 H ls av9 Q9 hx hb hlocks hml hts hown hK hP hend hl
  have hown : s9.vm.findClass RX2 = some m9.cls := hown
  have hl : lv_has ls 4 [(0, .ref h), (1, .int (nI p)), (2, .int (nI r))] := hl
  have hi2 : ∀ w ∈ u_ws RX2 TX2 17, w ∈ wsX2_worthOf := by decide +kernel
  have lk21 := hts (.fieldLink RX2 21 "StandIns$House" "degrees" "[I") (by decide +kernel)
  have lk9 := hts (.fieldLink RX2 9 "StandIns$House" "weights" "[I") (by decide +kernel)
  have lk15 := hts (.fieldLink RX2 15 "StandIns$House" "firstPlayers" "[I") (by decide +kernel)
  refine lv_aload_n hx hb dX2_worthOf_0 rfl (lv_at hl 0 rfl) ?_
  refine va_get (ci := 2) (v := .ref (a 3)) (C := RX2) (T := TX2) (N := 17) hx hb hts hi2 hown hK hP 0 rfl rfl 3 (by decide) lk21 (fun _ h9 => h9) rfl dX2_worthOf_1 ?_
  refine lv_iload_n hx hb dX2_worthOf_4 rfl (lv_at hl 1 rfl) ?_
  refine lv_iload_n hx hb dX2_worthOf_5 rfl (lv_at hl 2 rfl) ?_
  have hPc := P_sub (ws' := []) hP [] rfl
  refine xr_S (As := [.int (nI p), .int (nI r)]) (rest := [.ref (a 3)]) ⟨hx, hb, hml, hown, hts⟩ (c_X2_cell l K p r) (va_cwS 2 hts gX2_worthOf_X2_cell rfl rfl rfl (by decide +kernel) ⟨Nat.le_of_ble_eq_true rfl, Nat.le_of_ble_eq_true rfl⟩) hK hPc rfl hl.1 rfl (Nat.le_of_ble_eq_true rfl) (Nat.le_of_ble_eq_true rfl) (Nat.le_of_ble_eq_true rfl) dX2_worthOf_6 ?_
  refine xi_ld hx hb hK hP 4 (f := S 3) rfl (r * 10 + p) rfl (by omega) (by decide) dX2_worthOf_9 ?_
  refine lv_istore_n (lv' := [(3, .int (S 3 (r * 10 + p))), (0, .ref h), (1, .int (nI p)), (2, .int (nI r))]) hx hb dX2_worthOf_10 rfl hl (by decide) rfl (fun ls hl => ?_)
  refine lv_iload_n hx hb dX2_worthOf_11 rfl (lv_at hl 0 rfl) ?_
  refine lv_if_ne (tgt := 17) hx hb dX2_worthOf_12 (by decide) (fun c_12 => ?_) (fun c_12 => ?_)
  · skip
    refine lv_aload_n hx hb dX2_worthOf_17 rfl (lv_at hl 1 rfl) ?_
    refine va_get (ci := 2) (v := .ref (a 0)) (C := RX2) (T := TX2) (N := 17) hx hb hts hi2 hown hK hP 0 rfl rfl 0 (by decide) lk9 (fun _ h9 => h9) rfl dX2_worthOf_18 ?_
    refine lv_iload_n hx hb dX2_worthOf_21 rfl (lv_at hl 3 rfl) ?_
    refine xi_ld hx hb hK hP 1 (f := S 0) rfl r rfl (by omega) (by decide) dX2_worthOf_22 ?_
    refine lv_aload_n hx hb dX2_worthOf_23 rfl (lv_at hl 1 rfl) ?_
    refine va_get (ci := 2) (v := .ref (a 1)) (C := RX2) (T := TX2) (N := 17) hx hb hts hi2 hown hK hP 0 rfl rfl 1 (by decide) lk15 (fun _ h9 => h9) rfl dX2_worthOf_24 ?_
    refine lv_iload_n hx hb dX2_worthOf_27 rfl (lv_at hl 3 rfl) ?_
    refine xi_ld hx hb hK hP 2 (f := S 1) rfl r rfl (by omega) (by decide) dX2_worthOf_28 ?_
    refine lv_iload_n hx hb dX2_worthOf_29 rfl (lv_at hl 2 rfl) ?_
    refine lv_icmp_ne (tgt := 40) hx hb dX2_worthOf_30 (by decide) (fun c_30 => ?_) (fun c_30 => ?_)
    · skip
      refine lv_iload_n hx hb dX2_worthOf_40 rfl (lv_at hl 0 rfl) ?_
      refine lv_imul hx hb dX2_worthOf_41 ?_
      exact hend _ _ _ (by first | rfl | (simp [wOf, c_12, c_30]; done) | omega) dX2_worthOf_42
    · skip
      refine lv_iload_n hx hb dX2_worthOf_33 rfl (lv_at hl 0 rfl) ?_
      refine lv_bipush (v := (10 : Int32)) hx hb dX2_worthOf_34 (by decide) ?_
      refine lv_iadd hx hb dX2_worthOf_36 ?_
      refine lv_goto (tgt := 41) hx hb dX2_worthOf_37 (by decide) ?_
      refine lv_imul hx hb dX2_worthOf_41 ?_
      exact hend _ _ _ (by first | rfl | (simp [wOf, c_12, c_30]; done) | omega) dX2_worthOf_42
  · skip
    refine lv_iconst (v := (0 : Int32)) hx hb dX2_worthOf_15 (by decide) ?_
    exact hend _ _ _ (by first | rfl | (simp [wOf, c_12]; done) | omega) dX2_worthOf_16

abbrev rm_X2_paidTogether : Room := { frames := 0, cells := 0, slots := 0, locals := 0 }
set_option maxHeartbeats 4000000 in
set_option maxRecDepth 100000 in
theorem c_X2_paidTogether (l : Launch) (K : KX) (h : Nat) (a : Nat → Nat) (S : HV) (P : Nat) (hP0 : S 11 0 = nI P) (hP0b : P ≤ 10) : Met l yX2_paidTogether wsX2_paidTogether rm_X2_paidTogether (va_Pc [.ref h] (xRead K (hw K h a S))) (vp_Si (fun r9 => r9 = sumN (S 5) P)) 0 0 (fun _ => False) := by
  refine xr_starti (cc := cX2_paidTogether) (maxL := 3) (by decide) rfl (Nat.le_of_ble_eq_true rfl) ?_
  intro p9 e9 s9 m9 below9 meth9 c9 H ls av9 Q9 hx hb hlocks hml hts hown hK hP hend hl
  have hown : s9.vm.findClass RX2 = some m9.cls := hown
  have hl : lv_has ls 3 [(0, .ref h)] := hl
  have hi2 : ∀ w ∈ u_ws RX2 TX2 17, w ∈ wsX2_paidTogether := by decide +kernel
  have lk56 := hts (.fieldLink RX2 56 "StandIns$House" "players" "I") (by decide +kernel)
  have lk27 := hts (.fieldLink RX2 27 "StandIns$House" "pays" "[I") (by decide +kernel)
  refine lv_iconst (v := (0 : Int32)) hx hb dX2_paidTogether_0 (by decide) ?_
  refine lv_istore_n (lv' := [(1, .int (0 : Int32)), (0, .ref h)]) hx hb dX2_paidTogether_1 rfl hl (by decide) rfl (fun ls hl => ?_)
  refine lv_iconst (v := (0 : Int32)) hx hb dX2_paidTogether_2 (by decide) ?_
  refine lv_istore_n (lv' := [(2, .int (0 : Int32)), (1, .int (0 : Int32)), (0, .ref h)]) hx hb dX2_paidTogether_3 rfl hl (by decide) rfl (fun ls hl => ?_)
  have lp4 : ∀ (n9 : Nat) (k : Nat) (ls : Array Slot), P - k < n9 → (k ≤ P) → lv_has ls 3 [(0, .ref h), (1, .int (sumN (S 5) k)), (2, .int (nI k))] → W p9 l e9 rm_X2_paidTogether s9 m9 av9 below9 meth9 c9 H [] 0 0 Q9 (F0 m9 4 ls []) := by
    intro n9
    induction n9 with
    | zero => intro k ls hmu hk hl; exact absurd hmu (Nat.not_lt_zero _)
    | succ n9 ih4 =>
      intro k ls hmu hk hl
      refine lv_iload_n hx hb dX2_paidTogether_4 rfl (lv_at hl 2 rfl) ?_
      refine lv_aload_n hx hb dX2_paidTogether_5 rfl (lv_at hl 0 rfl) ?_
      refine va_get (ci := 2) (v := .int (S 11 0)) (C := RX2) (T := TX2) (N := 17) hx hb hts hi2 hown hK hP 0 rfl rfl 11 (by decide) lk56 (fun _ h9 => h9) rfl dX2_paidTogether_6 ?_
      refine xn_icmp_ge (tgt := 27) hx hb k P rfl hP0 (by omega) (by omega) dX2_paidTogether_9 (by decide) (fun c_9 => ?_) (fun c_9 => ?_)
      · skip
        refine lv_iload_n hx hb dX2_paidTogether_27 rfl (lv_at hl 1 rfl) ?_
        exact hend _ _ _ (by rw [show k = P by omega]) dX2_paidTogether_28
      · skip
        refine lv_iload_n hx hb dX2_paidTogether_12 rfl (lv_at hl 1 rfl) ?_
        refine lv_aload_n hx hb dX2_paidTogether_13 rfl (lv_at hl 0 rfl) ?_
        refine va_get (ci := 2) (v := .ref (a 5)) (C := RX2) (T := TX2) (N := 17) hx hb hts hi2 hown hK hP 0 rfl rfl 5 (by decide) lk27 (fun _ h9 => h9) rfl dX2_paidTogether_14 ?_
        refine lv_iload_n hx hb dX2_paidTogether_17 rfl (lv_at hl 2 rfl) ?_
        refine xi_ld hx hb hK hP 6 (f := S 5) rfl k rfl (by omega) (by decide) dX2_paidTogether_18 ?_
        refine lv_iadd hx hb dX2_paidTogether_19 ?_
        refine lv_istore_n (lv' := [(1, .int ((sumN (S 5) k) + (S 5 k))), (0, .ref h), (2, .int (nI k))]) hx hb dX2_paidTogether_20 rfl hl (by decide) rfl (fun ls hl => ?_)
        refine lv_iinc (v := nI (k + 1)) (lv' := [(2, .int (nI (k + 1))), (1, .int ((sumN (S 5) k) + (S 5 k))), (0, .ref h)]) hx hb dX2_paidTogether_21 hl (k := 2) rfl (nI_1 _) (by decide) rfl (fun ls hl => ?_)
        refine lv_goto (tgt := 4) hx hb dX2_paidTogether_24 (by decide) ?_
        exact ih4 (k + 1) _ (by omega) (by first | omega | assumption | first | rfl | (simp [sumN, c_9]; done) | omega) (lv_cons (lv_at hl 2 rfl) (lv_cons (lv_is (lv_at hl 1 rfl) (show (sumN (S 5) k) + (S 5 k) = sumN (S 5) (k + 1) by first | rfl | (simp [sumN, c_9]; done) | omega)) (lv_cons (lv_at hl 0 rfl) (lv_nil hl))))
  exact lp4 _ 0 _ (Nat.lt_succ_self _) (by first | omega | assumption | first | rfl | (simp [sumN]; done) | omega) (lv_cons (lv_at hl 2 rfl) (lv_cons (lv_is (lv_at hl 1 rfl) (show (0 : Int32) = sumN (S 5) 0 by first | rfl | (simp [sumN]; done) | omega)) (lv_cons (lv_is (lv_at hl 0 rfl) (show (0 : Int32) = nI 0 by first | rfl | (simp [sumN]; done) | omega)) (lv_nil hl))))

abbrev rm_X2_candidateCount : Room := { frames := 1, cells := 0, slots := 0, locals := 21 }
set_option maxHeartbeats 4000000 in
set_option maxRecDepth 100000 in
theorem c_X2_candidateCount (l : Launch) (K : KX) (h : Nat) (a : Nat → Nat) (S : HV) (r : Nat) (hr : r < 6) (P : Nat) (hP0 : S 11 0 = nI P) (hP0b : P ≤ 10) : Met l yX2_candidateCount wsX2_candidateCount rm_X2_candidateCount (va_Pc [.ref h, .int (nI r)] (xRead K (hw K h a S))) (vp_Si (fun r9 => r9 = cntC S r P)) 0 0 (fun _ => False) := by
  refine xr_starti (cc := cX2_candidateCount) (maxL := 4) (by decide) rfl (Nat.le_of_ble_eq_true rfl) ?_
  intro p9 e9 s9 m9 below9 meth9 c9 H ls av9 Q9 hx hb hlocks hml hts hown hK hP hend hl
  have hown : s9.vm.findClass RX2 = some m9.cls := hown
  have hl : lv_has ls 4 [(0, .ref h), (1, .int (nI r))] := hl
  have hi2 : ∀ w ∈ u_ws RX2 TX2 17, w ∈ wsX2_candidateCount := by decide +kernel
  have lk56 := hts (.fieldLink RX2 56 "StandIns$House" "players" "I") (by decide +kernel)
  have lk21 := hts (.fieldLink RX2 21 "StandIns$House" "degrees" "[I") (by decide +kernel)
  refine lv_iconst (v := (0 : Int32)) hx hb dX2_candidateCount_0 (by decide) ?_
  refine lv_istore_n (lv' := [(2, .int (0 : Int32)), (0, .ref h), (1, .int (nI r))]) hx hb dX2_candidateCount_1 rfl hl (by decide) rfl (fun ls hl => ?_)
  refine lv_iconst (v := (0 : Int32)) hx hb dX2_candidateCount_2 (by decide) ?_
  refine lv_istore_n (lv' := [(3, .int (0 : Int32)), (2, .int (0 : Int32)), (0, .ref h), (1, .int (nI r))]) hx hb dX2_candidateCount_3 rfl hl (by decide) rfl (fun ls hl => ?_)
  have lp4 : ∀ (n9 : Nat) (k : Nat) (ls : Array Slot), P - k < n9 → (k ≤ P) → lv_has ls 4 [(0, .ref h), (1, .int (nI r)), (2, .int (cntC S r k)), (3, .int (nI k))] → W p9 l e9 rm_X2_candidateCount s9 m9 av9 below9 meth9 c9 H [] 0 0 Q9 (F0 m9 4 ls []) := by
    intro n9
    induction n9 with
    | zero => intro k ls hmu hk hl; exact absurd hmu (Nat.not_lt_zero _)
    | succ n9 ih4 =>
      intro k ls hmu hk hl
      refine lv_iload_n hx hb dX2_candidateCount_4 rfl (lv_at hl 3 rfl) ?_
      refine lv_aload_n hx hb dX2_candidateCount_5 rfl (lv_at hl 0 rfl) ?_
      refine va_get (ci := 2) (v := .int (S 11 0)) (C := RX2) (T := TX2) (N := 17) hx hb hts hi2 hown hK hP 0 rfl rfl 11 (by decide) lk56 (fun _ h9 => h9) rfl dX2_candidateCount_6 ?_
      refine xn_icmp_ge (tgt := 42) hx hb k P rfl hP0 (by omega) (by omega) dX2_candidateCount_9 (by decide) (fun c_9 => ?_) (fun c_9 => ?_)
      · skip
        refine lv_iload_n hx hb dX2_candidateCount_42 rfl (lv_at hl 2 rfl) ?_
        exact hend _ _ _ (by rw [show k = P by omega]) dX2_candidateCount_43
      · skip
        refine lv_aload_n hx hb dX2_candidateCount_12 rfl (lv_at hl 0 rfl) ?_
        refine lv_iload_n hx hb dX2_candidateCount_13 rfl (lv_at hl 3 rfl) ?_
        have hPc : va_P K.1 vwCl (hw K h a S) H := hP
        refine xr_V (As := [.int (nI k)]) (rest := []) ⟨hx, hb, hml, hown, hts⟩ (c_X2_isFree l K h a S k (by omega)) (cwV 1 hts gX2_candidateCount_X2_isFree rfl rfl rfl (by decide +kernel) ⟨Nat.le_of_ble_eq_true rfl, Nat.le_of_ble_eq_true rfl⟩) hK hPc 0 2 rfl rfl rfl rfl hl.1 rfl (Nat.le_of_ble_eq_true rfl) (Nat.le_of_ble_eq_true rfl) (Nat.le_of_ble_eq_true rfl) dX2_candidateCount_14 ?_
        refine xb_if_eq (tgt := 36) hx hb dX2_candidateCount_17 (by decide) (fun c_17 => ?_) (fun c_17 => ?_)
        · skip
          refine lv_iinc (v := nI (k + 1)) (lv' := [(3, .int (nI (k + 1))), (0, .ref h), (1, .int (nI r)), (2, .int (cntC S r k))]) hx hb dX2_candidateCount_36 hl (k := 3) rfl (nI_1 _) (by decide) rfl (fun ls hl => ?_)
          refine lv_goto (tgt := 4) hx hb dX2_candidateCount_39 (by decide) ?_
          exact ih4 (k + 1) _ (by omega) (by first | omega | assumption | first | rfl | (simp [cntC, c_9, c_17]; done) | omega) (lv_cons (lv_at hl 1 rfl) (lv_cons (lv_at hl 2 rfl) (lv_cons (lv_is (lv_at hl 3 rfl) (show cntC S r k = cntC S r (k + 1) by first | rfl | (simp [cntC, c_9, c_17]; done) | omega)) (lv_cons (lv_at hl 0 rfl) (lv_nil hl)))))
        · skip
          refine lv_aload_n hx hb dX2_candidateCount_20 rfl (lv_at hl 0 rfl) ?_
          refine va_get (ci := 2) (v := .ref (a 3)) (C := RX2) (T := TX2) (N := 17) hx hb hts hi2 hown hK hP 0 rfl rfl 3 (by decide) lk21 (fun _ h9 => h9) rfl dX2_candidateCount_21 ?_
          refine lv_iload_n hx hb dX2_candidateCount_24 rfl (lv_at hl 3 rfl) ?_
          refine lv_iload_n hx hb dX2_candidateCount_25 rfl (lv_at hl 1 rfl) ?_
          have hPc := P_sub (ws' := []) hP [] rfl
          refine xr_S (As := [.int (nI k), .int (nI r)]) (rest := [.ref (a 3)]) ⟨hx, hb, hml, hown, hts⟩ (c_X2_cell l K k r) (va_cwS 2 hts gX2_candidateCount_X2_cell rfl rfl rfl (by decide +kernel) ⟨Nat.le_of_ble_eq_true rfl, Nat.le_of_ble_eq_true rfl⟩) hK hPc rfl hl.1 rfl (Nat.le_of_ble_eq_true rfl) (Nat.le_of_ble_eq_true rfl) (Nat.le_of_ble_eq_true rfl) dX2_candidateCount_26 ?_
          refine xi_ld hx hb hK hP 4 (f := S 3) rfl (r * 10 + k) rfl (by omega) (by decide) dX2_candidateCount_29 ?_
          refine lv_if_le (tgt := 36) hx hb dX2_candidateCount_30 (by decide) (fun c_30 => ?_) (fun c_30 => ?_)
          · skip
            have c_30n := Int32.not_lt.mpr c_30
            refine lv_iinc (v := nI (k + 1)) (lv' := [(3, .int (nI (k + 1))), (0, .ref h), (1, .int (nI r)), (2, .int (cntC S r k))]) hx hb dX2_candidateCount_36 hl (k := 3) rfl (nI_1 _) (by decide) rfl (fun ls hl => ?_)
            refine lv_goto (tgt := 4) hx hb dX2_candidateCount_39 (by decide) ?_
            exact ih4 (k + 1) _ (by omega) (by first | omega | assumption | first | rfl | (simp [cntC, c_9, c_17, c_30, c_30n]; done) | omega) (lv_cons (lv_at hl 1 rfl) (lv_cons (lv_at hl 2 rfl) (lv_cons (lv_is (lv_at hl 3 rfl) (show cntC S r k = cntC S r (k + 1) by first | rfl | (simp [cntC, c_9, c_17, c_30, c_30n]; done) | omega)) (lv_cons (lv_at hl 0 rfl) (lv_nil hl)))))
          · skip
            have c_30n := Int32.not_le.mp c_30
            refine lv_iinc (v := (cntC S r k) + 1) (lv' := [(2, .int ((cntC S r k) + 1)), (0, .ref h), (1, .int (nI r)), (3, .int (nI k))]) hx hb dX2_candidateCount_33 hl (k := 2) rfl rfl (by decide) rfl (fun ls hl => ?_)
            refine lv_iinc (v := nI (k + 1)) (lv' := [(3, .int (nI (k + 1))), (2, .int ((cntC S r k) + 1)), (0, .ref h), (1, .int (nI r))]) hx hb dX2_candidateCount_36 hl (k := 3) rfl (nI_1 _) (by decide) rfl (fun ls hl => ?_)
            refine lv_goto (tgt := 4) hx hb dX2_candidateCount_39 (by decide) ?_
            exact ih4 (k + 1) _ (by omega) (by first | omega | assumption | first | rfl | (simp [cntC, c_9, c_17, c_30, c_30n]; done) | omega) (lv_cons (lv_at hl 2 rfl) (lv_cons (lv_at hl 3 rfl) (lv_cons (lv_is (lv_at hl 1 rfl) (show (cntC S r k) + 1 = cntC S r (k + 1) by first | rfl | (simp [cntC, c_9, c_17, c_30, c_30n]; done) | omega)) (lv_cons (lv_at hl 0 rfl) (lv_nil hl)))))
  exact lp4 _ 0 _ (Nat.lt_succ_self _) (by first | omega | assumption | first | rfl | (simp [cntC]; done) | omega) (lv_cons (lv_at hl 2 rfl) (lv_cons (lv_at hl 3 rfl) (lv_cons (lv_is (lv_at hl 1 rfl) (show (0 : Int32) = cntC S r 0 by first | rfl | (simp [cntC]; done) | omega)) (lv_cons (lv_is (lv_at hl 0 rfl) (show (0 : Int32) = nI 0 by first | rfl | (simp [cntC]; done) | omega)) (lv_nil hl)))))

abbrev rm_X2_freePlayers : Room := { frames := 1, cells := 0, slots := 0, locals := 21 }
set_option maxHeartbeats 4000000 in
set_option maxRecDepth 100000 in
theorem c_X2_freePlayers (l : Launch) (K : KX) (h : Nat) (a : Nat → Nat) (S : HV) (P : Nat) (hP0 : S 11 0 = nI P) (hP0b : P ≤ 10) : Met l yX2_freePlayers wsX2_freePlayers rm_X2_freePlayers (va_Pc [.ref h] (xRead K (hw K h a S))) (vp_Si (fun r9 => r9 = nI (frN S P))) 0 0 (fun _ => False) := by
  refine xr_starti (cc := cX2_freePlayers) (maxL := 3) (by decide) rfl (Nat.le_of_ble_eq_true rfl) ?_
  intro p9 e9 s9 m9 below9 meth9 c9 H ls av9 Q9 hx hb hlocks hml hts hown hK hP hend hl
  have hown : s9.vm.findClass RX2 = some m9.cls := hown
  have hl : lv_has ls 3 [(0, .ref h)] := hl
  have hi2 : ∀ w ∈ u_ws RX2 TX2 17, w ∈ wsX2_freePlayers := by decide +kernel
  have lk56 := hts (.fieldLink RX2 56 "StandIns$House" "players" "I") (by decide +kernel)
  refine lv_iconst (v := (0 : Int32)) hx hb dX2_freePlayers_0 (by decide) ?_
  refine lv_istore_n (lv' := [(1, .int (0 : Int32)), (0, .ref h)]) hx hb dX2_freePlayers_1 rfl hl (by decide) rfl (fun ls hl => ?_)
  refine lv_iconst (v := (0 : Int32)) hx hb dX2_freePlayers_2 (by decide) ?_
  refine lv_istore_n (lv' := [(2, .int (0 : Int32)), (1, .int (0 : Int32)), (0, .ref h)]) hx hb dX2_freePlayers_3 rfl hl (by decide) rfl (fun ls hl => ?_)
  have lp4 : ∀ (n9 : Nat) (k : Nat) (ls : Array Slot), P - k < n9 → (k ≤ P) → lv_has ls 3 [(0, .ref h), (1, .int (nI (frN S k))), (2, .int (nI k))] → W p9 l e9 rm_X2_freePlayers s9 m9 av9 below9 meth9 c9 H [] 0 0 Q9 (F0 m9 4 ls []) := by
    intro n9
    induction n9 with
    | zero => intro k ls hmu hk hl; exact absurd hmu (Nat.not_lt_zero _)
    | succ n9 ih4 =>
      intro k ls hmu hk hl
      refine lv_iload_n hx hb dX2_freePlayers_4 rfl (lv_at hl 2 rfl) ?_
      refine lv_aload_n hx hb dX2_freePlayers_5 rfl (lv_at hl 0 rfl) ?_
      refine va_get (ci := 2) (v := .int (S 11 0)) (C := RX2) (T := TX2) (N := 17) hx hb hts hi2 hown hK hP 0 rfl rfl 11 (by decide) lk56 (fun _ h9 => h9) rfl dX2_freePlayers_6 ?_
      refine xn_icmp_ge (tgt := 32) hx hb k P rfl hP0 (by omega) (by omega) dX2_freePlayers_9 (by decide) (fun c_9 => ?_) (fun c_9 => ?_)
      · skip
        refine lv_iload_n hx hb dX2_freePlayers_32 rfl (lv_at hl 1 rfl) ?_
        exact hend _ _ _ (by rw [show k = P by omega]) dX2_freePlayers_33
      · skip
        refine lv_aload_n hx hb dX2_freePlayers_12 rfl (lv_at hl 0 rfl) ?_
        refine lv_iload_n hx hb dX2_freePlayers_13 rfl (lv_at hl 2 rfl) ?_
        have hPc : va_P K.1 vwCl (hw K h a S) H := hP
        refine xr_V (As := [.int (nI k)]) (rest := []) ⟨hx, hb, hml, hown, hts⟩ (c_X2_isFree l K h a S k (by omega)) (cwV 1 hts gX2_freePlayers_X2_isFree rfl rfl rfl (by decide +kernel) ⟨Nat.le_of_ble_eq_true rfl, Nat.le_of_ble_eq_true rfl⟩) hK hPc 0 2 rfl rfl rfl rfl hl.1 rfl (Nat.le_of_ble_eq_true rfl) (Nat.le_of_ble_eq_true rfl) (Nat.le_of_ble_eq_true rfl) dX2_freePlayers_14 ?_
        refine xb_if_eq (tgt := 26) hx hb dX2_freePlayers_17 (by decide) (fun c_17 => ?_) (fun c_17 => ?_)
        · skip
          refine lv_iinc (v := nI (k + 1)) (lv' := [(2, .int (nI (k + 1))), (0, .ref h), (1, .int (nI (frN S k)))]) hx hb dX2_freePlayers_26 hl (k := 2) rfl (nI_1 _) (by decide) rfl (fun ls hl => ?_)
          refine lv_goto (tgt := 4) hx hb dX2_freePlayers_29 (by decide) ?_
          exact ih4 (k + 1) _ (by omega) (by first | omega | assumption | first | rfl | (simp [c_9, c_17]; done) | omega) (lv_cons (lv_at hl 1 rfl) (lv_cons (lv_is (lv_at hl 2 rfl) (show nI (frN S k) = nI (frN S (k + 1)) by first | (rw [frN, if_neg c_17]; done) | (rw [frN, if_pos c_17]; exact nn_or rfl (nn_shl1 rfl rfl (by omega))))) (lv_cons (lv_at hl 0 rfl) (lv_nil hl))))
        · skip
          refine lv_iload_n hx hb dX2_freePlayers_20 rfl (lv_at hl 1 rfl) ?_
          refine lv_iconst (v := (1 : Int32)) hx hb dX2_freePlayers_21 (by decide) ?_
          refine lv_iload_n hx hb dX2_freePlayers_22 rfl (lv_at hl 2 rfl) ?_
          refine lv_ishl hx hb dX2_freePlayers_23 ?_
          refine lv_ior hx hb dX2_freePlayers_24 ?_
          refine lv_istore_n (lv' := [(1, .int ((nI (frN S k)) ||| ((1 : Int32) <<< ((nI k) &&& 31)))), (0, .ref h), (2, .int (nI k))]) hx hb dX2_freePlayers_25 rfl hl (by decide) rfl (fun ls hl => ?_)
          refine lv_iinc (v := nI (k + 1)) (lv' := [(2, .int (nI (k + 1))), (1, .int ((nI (frN S k)) ||| ((1 : Int32) <<< ((nI k) &&& 31)))), (0, .ref h)]) hx hb dX2_freePlayers_26 hl (k := 2) rfl (nI_1 _) (by decide) rfl (fun ls hl => ?_)
          refine lv_goto (tgt := 4) hx hb dX2_freePlayers_29 (by decide) ?_
          exact ih4 (k + 1) _ (by omega) (by first | omega | assumption | first | rfl | (simp [c_9, c_17]; done) | omega) (lv_cons (lv_at hl 2 rfl) (lv_cons (lv_is (lv_at hl 1 rfl) (show (nI (frN S k)) ||| ((1 : Int32) <<< ((nI k) &&& 31)) = nI (frN S (k + 1)) by first | (rw [frN, if_neg c_17]; done) | (rw [frN, if_pos c_17]; exact nn_or rfl (nn_shl1 rfl rfl (by omega))))) (lv_cons (lv_at hl 0 rfl) (lv_nil hl))))
  exact lp4 _ 0 _ (Nat.lt_succ_self _) (by first | omega | assumption | first | rfl | (simp; done) | omega) (lv_cons (lv_at hl 2 rfl) (lv_cons (lv_is (lv_at hl 1 rfl) (show (0 : Int32) = nI (frN S 0) by rfl)) (lv_cons (lv_is (lv_at hl 0 rfl) (show (0 : Int32) = nI 0 by first | rfl | (simp; done) | omega)) (lv_nil hl))))

abbrev rm_X2_freePlayersBut : Room := { frames := 2, cells := 0, slots := 0, locals := 43 }
set_option maxHeartbeats 4000000 in
set_option maxRecDepth 100000 in
theorem c_X2_freePlayersBut (l : Launch) (K : KX) (h : Nat) (a : Nat → Nat) (S : HV) (p : Nat) (hp : p < 10) (P : Nat) (hP0 : S 11 0 = nI P) (hP0b : P ≤ 10) : Met l yX2_freePlayersBut wsX2_freePlayersBut rm_X2_freePlayersBut (va_Pc [.ref h, .int (nI p)] (xRead K (hw K h a S))) (vp_Si (fun r9 => r9 = nI (frB S p P))) 0 0 (fun _ => False) := by
  refine xr_starti (cc := cX2_freePlayersBut) (maxL := 2) (by decide) rfl (Nat.le_of_ble_eq_true rfl) ?_
  intro p9 e9 s9 m9 below9 meth9 c9 H ls av9 Q9 hx hb hlocks hml hts hown hK hP hend hl
  have hown : s9.vm.findClass RX2 = some m9.cls := hown
  have hl : lv_has ls 2 [(0, .ref h), (1, .int (nI p))] := hl
  refine lv_aload_n hx hb dX2_freePlayersBut_0 rfl (lv_at hl 0 rfl) ?_
  have hPc : va_P K.1 vwCl (hw K h a S) H := hP
  refine xr_V (As := []) (rest := []) ⟨hx, hb, hml, hown, hts⟩ (c_X2_freePlayers l K h a S P hP0 (by omega)) (cwV 0 hts gX2_freePlayersBut_X2_freePlayers rfl rfl rfl (by decide +kernel) ⟨Nat.le_of_ble_eq_true rfl, Nat.le_of_ble_eq_true rfl⟩) hK hPc 0 2 rfl rfl rfl rfl hl.1 rfl (Nat.le_of_ble_eq_true rfl) (Nat.le_of_ble_eq_true rfl) (Nat.le_of_ble_eq_true rfl) dX2_freePlayersBut_1 ?_
  refine lv_iconst (v := (1 : Int32)) hx hb dX2_freePlayersBut_4 (by decide) ?_
  refine lv_iload_n hx hb dX2_freePlayersBut_5 rfl (lv_at hl 1 rfl) ?_
  refine lv_ishl hx hb dX2_freePlayersBut_6 ?_
  refine lv_iconst (v := (-1 : Int32)) hx hb dX2_freePlayersBut_7 (by decide) ?_
  refine lv_ixor hx hb dX2_freePlayersBut_8 ?_
  refine lv_iand hx hb dX2_freePlayersBut_9 ?_
  exact hend _ _ _ (by exact frB_eq S hp hP0b) dX2_freePlayersBut_10

abbrev rm_X2_placeOf : Room := { frames := 0, cells := 0, slots := 0, locals := 0 }
set_option maxHeartbeats 4000000 in
set_option maxRecDepth 100000 in
theorem c_X2_placeOf (l : Launch) (K : KX) (h : Nat) (a : Nat → Nat) (S : HV) (p : Nat) (hp : p < 10) (P : Nat) (hP0 : S 11 0 = nI P) (hP0b : P ≤ 10) : Met l yX2_placeOf wsX2_placeOf rm_X2_placeOf (va_Pc [.ref h, .int (nI p)] (xRead K (hw K h a S))) (vp_Si (fun r9 => r9 = plc S p P)) 0 0 (fun _ => False) := by
  refine xr_starti (cc := cX2_placeOf) (maxL := 4) (by decide) rfl (Nat.le_of_ble_eq_true rfl) ?_
  intro p9 e9 s9 m9 below9 meth9 c9 H ls av9 Q9 hx hb hlocks hml hts hown hK hP hend hl
  have hown : s9.vm.findClass RX2 = some m9.cls := hown
  have hl : lv_has ls 4 [(0, .ref h), (1, .int (nI p))] := hl
  have hi2 : ∀ w ∈ u_ws RX2 TX2 17, w ∈ wsX2_placeOf := by decide +kernel
  have lk56 := hts (.fieldLink RX2 56 "StandIns$House" "players" "I") (by decide +kernel)
  have lk27 := hts (.fieldLink RX2 27 "StandIns$House" "pays" "[I") (by decide +kernel)
  refine lv_iconst (v := (0 : Int32)) hx hb dX2_placeOf_0 (by decide) ?_
  refine lv_istore_n (lv' := [(2, .int (0 : Int32)), (0, .ref h), (1, .int (nI p))]) hx hb dX2_placeOf_1 rfl hl (by decide) rfl (fun ls hl => ?_)
  refine lv_iconst (v := (0 : Int32)) hx hb dX2_placeOf_2 (by decide) ?_
  refine lv_istore_n (lv' := [(3, .int (0 : Int32)), (2, .int (0 : Int32)), (0, .ref h), (1, .int (nI p))]) hx hb dX2_placeOf_3 rfl hl (by decide) rfl (fun ls hl => ?_)
  have lp4 : ∀ (n9 : Nat) (k : Nat) (ls : Array Slot), P - k < n9 → (k ≤ P) → lv_has ls 4 [(0, .ref h), (1, .int (nI p)), (2, .int (plc S p k)), (3, .int (nI k))] → W p9 l e9 rm_X2_placeOf s9 m9 av9 below9 meth9 c9 H [] 0 0 Q9 (F0 m9 4 ls []) := by
    intro n9
    induction n9 with
    | zero => intro k ls hmu hk hl; exact absurd hmu (Nat.not_lt_zero _)
    | succ n9 ih4 =>
      intro k ls hmu hk hl
      refine lv_iload_n hx hb dX2_placeOf_4 rfl (lv_at hl 3 rfl) ?_
      refine lv_aload_n hx hb dX2_placeOf_5 rfl (lv_at hl 0 rfl) ?_
      refine va_get (ci := 2) (v := .int (S 11 0)) (C := RX2) (T := TX2) (N := 17) hx hb hts hi2 hown hK hP 0 rfl rfl 11 (by decide) lk56 (fun _ h9 => h9) rfl dX2_placeOf_6 ?_
      refine xn_icmp_ge (tgt := 56) hx hb k P rfl hP0 (by omega) (by omega) dX2_placeOf_9 (by decide) (fun c_9 => ?_) (fun c_9 => ?_)
      · skip
        refine lv_iload_n hx hb dX2_placeOf_56 rfl (lv_at hl 2 rfl) ?_
        exact hend _ _ _ (by rw [show k = P by omega]) dX2_placeOf_57
      · skip
        refine lv_aload_n hx hb dX2_placeOf_12 rfl (lv_at hl 0 rfl) ?_
        refine va_get (ci := 2) (v := .ref (a 5)) (C := RX2) (T := TX2) (N := 17) hx hb hts hi2 hown hK hP 0 rfl rfl 5 (by decide) lk27 (fun _ h9 => h9) rfl dX2_placeOf_13 ?_
        refine lv_iload_n hx hb dX2_placeOf_16 rfl (lv_at hl 3 rfl) ?_
        refine xi_ld hx hb hK hP 6 (f := S 5) rfl k rfl (by omega) (by decide) dX2_placeOf_17 ?_
        refine lv_aload_n hx hb dX2_placeOf_18 rfl (lv_at hl 0 rfl) ?_
        refine va_get (ci := 2) (v := .ref (a 5)) (C := RX2) (T := TX2) (N := 17) hx hb hts hi2 hown hK hP 0 rfl rfl 5 (by decide) lk27 (fun _ h9 => h9) rfl dX2_placeOf_19 ?_
        refine lv_iload_n hx hb dX2_placeOf_22 rfl (lv_at hl 1 rfl) ?_
        refine xi_ld hx hb hK hP 6 (f := S 5) rfl p rfl (by omega) (by decide) dX2_placeOf_23 ?_
        refine lv_icmp_gt (tgt := 47) hx hb dX2_placeOf_24 (by decide) (fun c_24 => ?_) (fun c_24 => ?_)
        · skip
          have c_24n := Int32.not_le.mpr c_24
          refine lv_iinc (v := (plc S p k) + 1) (lv' := [(2, .int ((plc S p k) + 1)), (0, .ref h), (1, .int (nI p)), (3, .int (nI k))]) hx hb dX2_placeOf_47 hl (k := 2) rfl rfl (by decide) rfl (fun ls hl => ?_)
          refine lv_iinc (v := nI (k + 1)) (lv' := [(3, .int (nI (k + 1))), (2, .int ((plc S p k) + 1)), (0, .ref h), (1, .int (nI p))]) hx hb dX2_placeOf_50 hl (k := 3) rfl (nI_1 _) (by decide) rfl (fun ls hl => ?_)
          refine lv_goto (tgt := 4) hx hb dX2_placeOf_53 (by decide) ?_
          exact ih4 (k + 1) _ (by omega) (by first | omega | assumption | (simp [plc, c_9, c_24, c_24n] <;> omega)) (lv_cons (lv_at hl 2 rfl) (lv_cons (lv_at hl 3 rfl) (lv_cons (lv_is (lv_at hl 1 rfl) (show (plc S p k) + 1 = plc S p (k + 1) by (simp [plc, c_9, c_24, c_24n] <;> omega))) (lv_cons (lv_at hl 0 rfl) (lv_nil hl)))))
        · skip
          have c_24n := Int32.not_lt.mp c_24
          refine lv_aload_n hx hb dX2_placeOf_27 rfl (lv_at hl 0 rfl) ?_
          refine va_get (ci := 2) (v := .ref (a 5)) (C := RX2) (T := TX2) (N := 17) hx hb hts hi2 hown hK hP 0 rfl rfl 5 (by decide) lk27 (fun _ h9 => h9) rfl dX2_placeOf_28 ?_
          refine lv_iload_n hx hb dX2_placeOf_31 rfl (lv_at hl 3 rfl) ?_
          refine xi_ld hx hb hK hP 6 (f := S 5) rfl k rfl (by omega) (by decide) dX2_placeOf_32 ?_
          refine lv_aload_n hx hb dX2_placeOf_33 rfl (lv_at hl 0 rfl) ?_
          refine va_get (ci := 2) (v := .ref (a 5)) (C := RX2) (T := TX2) (N := 17) hx hb hts hi2 hown hK hP 0 rfl rfl 5 (by decide) lk27 (fun _ h9 => h9) rfl dX2_placeOf_34 ?_
          refine lv_iload_n hx hb dX2_placeOf_37 rfl (lv_at hl 1 rfl) ?_
          refine xi_ld hx hb hK hP 6 (f := S 5) rfl p rfl (by omega) (by decide) dX2_placeOf_38 ?_
          refine lv_icmp_ne (tgt := 50) hx hb dX2_placeOf_39 (by decide) (fun c_39 => ?_) (fun c_39 => ?_)
          · skip
            refine lv_iinc (v := nI (k + 1)) (lv' := [(3, .int (nI (k + 1))), (0, .ref h), (1, .int (nI p)), (2, .int (plc S p k))]) hx hb dX2_placeOf_50 hl (k := 3) rfl (nI_1 _) (by decide) rfl (fun ls hl => ?_)
            refine lv_goto (tgt := 4) hx hb dX2_placeOf_53 (by decide) ?_
            exact ih4 (k + 1) _ (by omega) (by first | omega | assumption | (simp [plc, c_9, c_24, c_24n, c_39] <;> omega)) (lv_cons (lv_at hl 1 rfl) (lv_cons (lv_at hl 2 rfl) (lv_cons (lv_is (lv_at hl 3 rfl) (show plc S p k = plc S p (k + 1) by (simp [plc, c_9, c_24, c_24n, c_39] <;> omega))) (lv_cons (lv_at hl 0 rfl) (lv_nil hl)))))
          · skip
            refine lv_iload_n hx hb dX2_placeOf_42 rfl (lv_at hl 3 rfl) ?_
            refine lv_iload_n hx hb dX2_placeOf_43 rfl (lv_at hl 1 rfl) ?_
            refine xn_icmp_ge (tgt := 50) hx hb k p rfl rfl (by omega) (by omega) dX2_placeOf_44 (by decide) (fun c_44 => ?_) (fun c_44 => ?_)
            · skip
              refine lv_iinc (v := nI (k + 1)) (lv' := [(3, .int (nI (k + 1))), (0, .ref h), (1, .int (nI p)), (2, .int (plc S p k))]) hx hb dX2_placeOf_50 hl (k := 3) rfl (nI_1 _) (by decide) rfl (fun ls hl => ?_)
              refine lv_goto (tgt := 4) hx hb dX2_placeOf_53 (by decide) ?_
              exact ih4 (k + 1) _ (by omega) (by first | omega | assumption | (simp [plc, c_9, c_24, c_24n, c_39, c_44] <;> omega)) (lv_cons (lv_at hl 1 rfl) (lv_cons (lv_at hl 2 rfl) (lv_cons (lv_is (lv_at hl 3 rfl) (show plc S p k = plc S p (k + 1) by (simp [plc, c_9, c_24, c_24n, c_39, c_44] <;> omega))) (lv_cons (lv_at hl 0 rfl) (lv_nil hl)))))
            · skip
              refine lv_iinc (v := (plc S p k) + 1) (lv' := [(2, .int ((plc S p k) + 1)), (0, .ref h), (1, .int (nI p)), (3, .int (nI k))]) hx hb dX2_placeOf_47 hl (k := 2) rfl rfl (by decide) rfl (fun ls hl => ?_)
              refine lv_iinc (v := nI (k + 1)) (lv' := [(3, .int (nI (k + 1))), (2, .int ((plc S p k) + 1)), (0, .ref h), (1, .int (nI p))]) hx hb dX2_placeOf_50 hl (k := 3) rfl (nI_1 _) (by decide) rfl (fun ls hl => ?_)
              refine lv_goto (tgt := 4) hx hb dX2_placeOf_53 (by decide) ?_
              exact ih4 (k + 1) _ (by omega) (by first | omega | assumption | (simp [plc, c_9, c_24, c_24n, c_39, c_44] <;> omega)) (lv_cons (lv_at hl 2 rfl) (lv_cons (lv_at hl 3 rfl) (lv_cons (lv_is (lv_at hl 1 rfl) (show (plc S p k) + 1 = plc S p (k + 1) by (simp [plc, c_9, c_24, c_24n, c_39, c_44] <;> omega))) (lv_cons (lv_at hl 0 rfl) (lv_nil hl)))))
  exact lp4 _ 0 _ (Nat.lt_succ_self _) (by first | omega | assumption | first | rfl | (simp; done) | omega) (lv_cons (lv_at hl 2 rfl) (lv_cons (lv_at hl 3 rfl) (lv_cons (lv_is (lv_at hl 1 rfl) (show (0 : Int32) = plc S p 0 by first | rfl | (simp; done) | omega)) (lv_cons (lv_is (lv_at hl 0 rfl) (show (0 : Int32) = nI 0 by first | rfl | (simp; done) | omega)) (lv_nil hl)))))

abbrev rm_X2_daysStillAway : Room := { frames := 1, cells := 0, slots := 0, locals := 13 }
set_option maxHeartbeats 4000000 in
set_option maxRecDepth 100000 in
theorem c_X2_daysStillAway (l : Launch) (K : KX) (h : Nat) (a : Nat → Nat) (S : HV) (p : Nat) (hp : p < 10) : Met l yX2_daysStillAway wsX2_daysStillAway rm_X2_daysStillAway (va_Pc [.ref h, .int (nI p)] (xRead K (hw K h a S))) (vp_Si (fun r9 => r9 = (if 0 < S 7 p - S 12 0 then S 7 p - S 12 0 else 0))) 0 0 (fun _ => False) := by
  refine xr_starti (cc := cX2_daysStillAway) (maxL := 2) (by decide) rfl (Nat.le_of_ble_eq_true rfl) ?_
  intro p9 e9 s9 m9 below9 meth9 c9 H ls av9 Q9 hx hb hlocks hml hts hown hK hP hend hl
  have hown : s9.vm.findClass RX2 = some m9.cls := hown
  have hl : lv_has ls 2 [(0, .ref h), (1, .int (nI p))] := hl
  have hi2 : ∀ w ∈ u_ws RX2 TX2 17, w ∈ wsX2_daysStillAway := by decide +kernel
  have lk33 := hts (.fieldLink RX2 33 "StandIns$House" "backDays" "[I") (by decide +kernel)
  have lk59 := hts (.fieldLink RX2 59 "StandIns$House" "today" "I") (by decide +kernel)
  refine lv_iconst (v := (0 : Int32)) hx hb dX2_daysStillAway_0 (by decide) ?_
  refine lv_aload_n hx hb dX2_daysStillAway_1 rfl (lv_at hl 0 rfl) ?_
  refine va_get (ci := 2) (v := .ref (a 7)) (C := RX2) (T := TX2) (N := 17) hx hb hts hi2 hown hK hP 0 rfl rfl 7 (by decide) lk33 (fun _ h9 => h9) rfl dX2_daysStillAway_2 ?_
  refine lv_iload_n hx hb dX2_daysStillAway_5 rfl (lv_at hl 1 rfl) ?_
  refine xi_ld hx hb hK hP 8 (f := S 7) rfl p rfl (by omega) (by decide) dX2_daysStillAway_6 ?_
  refine lv_aload_n hx hb dX2_daysStillAway_7 rfl (lv_at hl 0 rfl) ?_
  refine va_get (ci := 2) (v := .int (S 12 0)) (C := RX2) (T := TX2) (N := 17) hx hb hts hi2 hown hK hP 0 rfl rfl 12 (by decide) lk59 (fun _ h9 => h9) rfl dX2_daysStillAway_8 ?_
  refine lv_isub hx hb dX2_daysStillAway_11 ?_
  refine va_mmax hx hb (hml.trans hl.1.symm) hown (hts (.methodLink RX2 87 Lib.Math.max.name) (by decide +kernel)) (hts (.static Lib.Math.max.name) (by decide +kernel)) (hts (.initialized "java/lang/Math") (by decide +kernel)) (hts (.code Lib.Math.max.name Lib.Math.max.code 2 (some .int)) (by decide +kernel)) (Nat.le_of_ble_eq_true rfl) (Nat.le_of_ble_eq_true rfl) (Nat.le_of_ble_eq_true rfl) (Nat.le_of_ble_eq_true rfl) dX2_daysStillAway_12 ?_
  exact hend _ _ _ (by first | rfl | (simp; done) | omega) dX2_daysStillAway_15

abbrev rm_X2_playerAtPlace : Room := { frames := 1, cells := 0, slots := 0, locals := 23 }
set_option maxHeartbeats 4000000 in
set_option maxRecDepth 100000 in
theorem c_X2_playerAtPlace (l : Launch) (K : KX) (h : Nat) (a : Nat → Nat) (S : HV) (k : Int32) (P : Nat) (hP0 : S 11 0 = nI P) (hP0b : P ≤ 10) : Met l yX2_playerAtPlace wsX2_playerAtPlace rm_X2_playerAtPlace (va_Pc [.ref h, .int k] (xRead K (hw K h a S))) (vp_Si (fun r9 => r9 = fstF (fun p => decide (plc S p P = k)) 0 P)) 0 0 (fun _ => False) := by
  refine xr_starti (cc := cX2_playerAtPlace) (maxL := 3) (by decide) rfl (Nat.le_of_ble_eq_true rfl) ?_
  intro p9 e9 s9 m9 below9 meth9 c9 H ls av9 Q9 hx hb hlocks hml hts hown hK hP hend hl
  have hown : s9.vm.findClass RX2 = some m9.cls := hown
  have hl : lv_has ls 3 [(0, .ref h), (1, .int k)] := hl
  have hi2 : ∀ w ∈ u_ws RX2 TX2 17, w ∈ wsX2_playerAtPlace := by decide +kernel
  have lk56 := hts (.fieldLink RX2 56 "StandIns$House" "players" "I") (by decide +kernel)
  refine lv_iconst (v := (0 : Int32)) hx hb dX2_playerAtPlace_0 (by decide) ?_
  refine lv_istore_n (lv' := [(2, .int (0 : Int32)), (0, .ref h), (1, .int k)]) hx hb dX2_playerAtPlace_1 rfl hl (by decide) rfl (fun ls hl => ?_)
  have lp2 : ∀ (n9 : Nat) (i : Nat) (ls : Array Slot), P - i < n9 → (i ≤ P) → (fstF (fun p => decide (plc S p P = k)) 0 P = fstF (fun p => decide (plc S p P = k)) i (P - i)) → lv_has ls 3 [(0, .ref h), (1, .int k), (2, .int (nI i))] → W p9 l e9 rm_X2_playerAtPlace s9 m9 av9 below9 meth9 c9 H [] 0 0 Q9 (F0 m9 2 ls []) := by
    intro n9
    induction n9 with
    | zero => intro i ls hmu hi hF hl; exact absurd hmu (Nat.not_lt_zero _)
    | succ n9 ih2 =>
      intro i ls hmu hi hF hl
      refine lv_iload_n hx hb dX2_playerAtPlace_2 rfl (lv_at hl 2 rfl) ?_
      refine lv_aload_n hx hb dX2_playerAtPlace_3 rfl (lv_at hl 0 rfl) ?_
      refine va_get (ci := 2) (v := .int (S 11 0)) (C := RX2) (T := TX2) (N := 17) hx hb hts hi2 hown hK hP 0 rfl rfl 11 (by decide) lk56 (fun _ h9 => h9) rfl dX2_playerAtPlace_4 ?_
      refine xn_icmp_ge (tgt := 27) hx hb i P rfl hP0 (by omega) (by omega) dX2_playerAtPlace_7 (by decide) (fun c_7 => ?_) (fun c_7 => ?_)
      · skip
        refine lv_iconst (v := (-1 : Int32)) hx hb dX2_playerAtPlace_27 (by decide) ?_
        exact hend _ _ _ (by rw [hF]; exact (fstF_end c_7).symm) dX2_playerAtPlace_28
      · skip
        refine lv_aload_n hx hb dX2_playerAtPlace_10 rfl (lv_at hl 0 rfl) ?_
        refine lv_iload_n hx hb dX2_playerAtPlace_11 rfl (lv_at hl 2 rfl) ?_
        have hPc : va_P K.1 vwCl (hw K h a S) H := hP
        refine xr_V (As := [.int (nI i)]) (rest := []) ⟨hx, hb, hml, hown, hts⟩ (c_X2_placeOf l K h a S i (by omega) P hP0 (by omega)) (cwV 1 hts gX2_playerAtPlace_X2_placeOf rfl rfl rfl (by decide +kernel) ⟨Nat.le_of_ble_eq_true rfl, Nat.le_of_ble_eq_true rfl⟩) hK hPc 0 2 rfl rfl rfl rfl hl.1 rfl (Nat.le_of_ble_eq_true rfl) (Nat.le_of_ble_eq_true rfl) (Nat.le_of_ble_eq_true rfl) dX2_playerAtPlace_12 ?_
        refine lv_iload_n hx hb dX2_playerAtPlace_15 rfl (lv_at hl 1 rfl) ?_
        refine lv_icmp_ne (tgt := 21) hx hb dX2_playerAtPlace_16 (by decide) (fun c_16 => ?_) (fun c_16 => ?_)
        · skip
          refine lv_iinc (v := nI (i + 1)) (lv' := [(2, .int (nI (i + 1))), (0, .ref h), (1, .int k)]) hx hb dX2_playerAtPlace_21 hl (k := 2) rfl (nI_1 _) (by decide) rfl (fun ls hl => ?_)
          refine lv_goto (tgt := 2) hx hb dX2_playerAtPlace_24 (by decide) ?_
          exact ih2 (i + 1) _ (by omega) (by first | omega | assumption | first | rfl | (simp [c_7, c_16]; done) | omega) (by rw [hF]; exact fstF_step c_7 (by simp [c_16])) (lv_cons (lv_at hl 1 rfl) (lv_cons (lv_at hl 2 rfl) (lv_cons (lv_at hl 0 rfl) (lv_nil hl))))
        · skip
          refine lv_iload_n hx hb dX2_playerAtPlace_19 rfl (lv_at hl 2 rfl) ?_
          exact hend _ _ _ (by rw [hF]; exact (fstF_hit c_7 (by simp [c_16])).symm) dX2_playerAtPlace_20
  exact lp2 _ 0 _ (Nat.lt_succ_self _) (by first | omega | assumption | first | rfl | (simp; done) | omega) (by first | omega | assumption | first | rfl | (simp; done) | omega) (lv_cons (lv_at hl 1 rfl) (lv_cons (lv_at hl 2 rfl) (lv_cons (lv_is (lv_at hl 0 rfl) (show (0 : Int32) = nI 0 by first | rfl | (simp; done) | omega)) (lv_nil hl))))

abbrev rm_X2_hasRole_n : Room := { frames := 0, cells := 0, slots := 0, locals := 0 }
set_option maxHeartbeats 4000000 in
set_option maxRecDepth 100000 in
theorem c_X2_hasRole_n (l : Launch) (K : KX) (h : Nat) (a : Nat → Nat) (S : HV) (r : Nat) (hr : r < 2 ^ 31) (R : Nat) (hR0 : S 10 0 = nI R) (hR0b : R ≤ 6) : Met l yX2_hasRole wsX2_hasRole rm_X2_hasRole_n (va_Pc [.ref h, .int (nI r)] (xRead K (hw K h a S))) (vp_Si (fun r9 => r9 = bI (r < R))) 0 0 (fun _ => False) := by
  refine xr_startz (cc := cX2_hasRole) (maxL := 2) (ret := .boolean) (by decide) rfl (Nat.le_of_ble_eq_true rfl) ?_
  intro p9 e9 s9 m9 below9 meth9 c9 H ls av9 Q9 hx hb hlocks hml hts hown hK hP hend hl
  have hown : s9.vm.findClass RX2 = some m9.cls := hown
  have hl : lv_has ls 2 [(0, .ref h), (1, .int (nI r))] := hl
  have hi2 : ∀ w ∈ u_ws RX2 TX2 17, w ∈ wsX2_hasRole := by decide +kernel
  have lk52 := hts (.fieldLink RX2 52 "StandIns$House" "roles" "I") (by decide +kernel)
  refine lv_iload_n hx hb dX2_hasRole_0 rfl (lv_at hl 1 rfl) ?_
  refine xn_if_lt (tgt := 16) hx hb r rfl (by omega) dX2_hasRole_1 (by decide) ?_
  refine lv_iload_n hx hb dX2_hasRole_4 rfl (lv_at hl 1 rfl) ?_
  refine lv_aload_n hx hb dX2_hasRole_5 rfl (lv_at hl 0 rfl) ?_
  refine va_get (ci := 2) (v := .int (S 10 0)) (C := RX2) (T := TX2) (N := 17) hx hb hts hi2 hown hK hP 0 rfl rfl 10 (by decide) lk52 (fun _ h9 => h9) rfl dX2_hasRole_6 ?_
  refine xn_icmp_ge (tgt := 16) hx hb r R rfl hR0 (by omega) (by omega) dX2_hasRole_9 (by decide) (fun c_9 => ?_) (fun c_9 => ?_)
  · skip
    refine lv_iconst (v := (0 : Int32)) hx hb dX2_hasRole_16 (by decide) ?_
    exact hend _ _ _ (by decide) (by first | exact (bI_t c_9).symm | exact (bI_f (Nat.not_lt.mpr c_9)).symm) dX2_hasRole_17
  · skip
    refine lv_iconst (v := (1 : Int32)) hx hb dX2_hasRole_12 (by decide) ?_
    refine lv_goto (tgt := 17) hx hb dX2_hasRole_13 (by decide) ?_
    exact hend _ _ _ (by decide) (by first | exact (bI_t c_9).symm | exact (bI_f (Nat.not_lt.mpr c_9)).symm) dX2_hasRole_17

abbrev rm_X2_hasPlayer_n : Room := { frames := 0, cells := 0, slots := 0, locals := 0 }
set_option maxHeartbeats 4000000 in
set_option maxRecDepth 100000 in
theorem c_X2_hasPlayer_n (l : Launch) (K : KX) (h : Nat) (a : Nat → Nat) (S : HV) (p : Nat) (hp : p < 2 ^ 31) (P : Nat) (hP0 : S 11 0 = nI P) (hP0b : P ≤ 10) : Met l yX2_hasPlayer wsX2_hasPlayer rm_X2_hasPlayer_n (va_Pc [.ref h, .int (nI p)] (xRead K (hw K h a S))) (vp_Si (fun r9 => r9 = bI (p < P))) 0 0 (fun _ => False) := by
  refine xr_startz (cc := cX2_hasPlayer) (maxL := 2) (ret := .boolean) (by decide) rfl (Nat.le_of_ble_eq_true rfl) ?_
  intro p9 e9 s9 m9 below9 meth9 c9 H ls av9 Q9 hx hb hlocks hml hts hown hK hP hend hl
  have hown : s9.vm.findClass RX2 = some m9.cls := hown
  have hl : lv_has ls 2 [(0, .ref h), (1, .int (nI p))] := hl
  have hi2 : ∀ w ∈ u_ws RX2 TX2 17, w ∈ wsX2_hasPlayer := by decide +kernel
  have lk56 := hts (.fieldLink RX2 56 "StandIns$House" "players" "I") (by decide +kernel)
  refine lv_iload_n hx hb dX2_hasPlayer_0 rfl (lv_at hl 1 rfl) ?_
  refine xn_if_lt (tgt := 16) hx hb p rfl (by omega) dX2_hasPlayer_1 (by decide) ?_
  refine lv_iload_n hx hb dX2_hasPlayer_4 rfl (lv_at hl 1 rfl) ?_
  refine lv_aload_n hx hb dX2_hasPlayer_5 rfl (lv_at hl 0 rfl) ?_
  refine va_get (ci := 2) (v := .int (S 11 0)) (C := RX2) (T := TX2) (N := 17) hx hb hts hi2 hown hK hP 0 rfl rfl 11 (by decide) lk56 (fun _ h9 => h9) rfl dX2_hasPlayer_6 ?_
  refine xn_icmp_ge (tgt := 16) hx hb p P rfl hP0 (by omega) (by omega) dX2_hasPlayer_9 (by decide) (fun c_9 => ?_) (fun c_9 => ?_)
  · skip
    refine lv_iconst (v := (0 : Int32)) hx hb dX2_hasPlayer_16 (by decide) ?_
    exact hend _ _ _ (by decide) (by first | exact (bI_t c_9).symm | exact (bI_f (Nat.not_lt.mpr c_9)).symm) dX2_hasPlayer_17
  · skip
    refine lv_iconst (v := (1 : Int32)) hx hb dX2_hasPlayer_12 (by decide) ?_
    refine lv_goto (tgt := 17) hx hb dX2_hasPlayer_13 (by decide) ?_
    exact hend _ _ _ (by decide) (by first | exact (bI_t c_9).symm | exact (bI_f (Nat.not_lt.mpr c_9)).symm) dX2_hasPlayer_17

abbrev rm_X2_promotable : Room := { frames := 1, cells := 0, slots := 0, locals := 21 }
set_option maxHeartbeats 4000000 in
set_option maxRecDepth 100000 in
theorem c_X2_promotable (l : Launch) (K : KX) (h : Nat) (a : Nat → Nat) (S : HV) (r : Nat) (hr : r < 6) (P : Nat) (hP0 : S 11 0 = nI P) (hP0b : P ≤ 10) : Met l yX2_promotable wsX2_promotable rm_X2_promotable (va_Pc [.ref h, .int (nI r)] (xRead K (hw K h a S))) (vp_Si (fun r9 => r9 = (prm S r P P).2)) 0 0 (fun _ => False) := by
  refine xr_starti (cc := cX2_promotable) (maxL := 6) (by decide) rfl (Nat.le_of_ble_eq_true rfl) ?_
  intro p9 e9 s9 m9 below9 meth9 c9 H ls av9 Q9 hx hb hlocks hml hts hown hK hP hend hl
  have hown : s9.vm.findClass RX2 = some m9.cls := hown
  have hl : lv_has ls 6 [(0, .ref h), (1, .int (nI r))] := hl
  have hi2 : ∀ w ∈ u_ws RX2 TX2 17, w ∈ wsX2_promotable := by decide +kernel
  have lk15 := hts (.fieldLink RX2 15 "StandIns$House" "firstPlayers" "[I") (by decide +kernel)
  have lk56 := hts (.fieldLink RX2 56 "StandIns$House" "players" "I") (by decide +kernel)
  have lk24 := hts (.fieldLink RX2 24 "StandIns$House" "times" "[I") (by decide +kernel)
  refine lv_aload_n hx hb dX2_promotable_0 rfl (lv_at hl 0 rfl) ?_
  refine va_get (ci := 2) (v := .ref (a 1)) (C := RX2) (T := TX2) (N := 17) hx hb hts hi2 hown hK hP 0 rfl rfl 1 (by decide) lk15 (fun _ h9 => h9) rfl dX2_promotable_1 ?_
  refine lv_iload_n hx hb dX2_promotable_4 rfl (lv_at hl 1 rfl) ?_
  refine xi_ld hx hb hK hP 2 (f := S 1) rfl r rfl (by omega) (by decide) dX2_promotable_5 ?_
  refine lv_istore_n (lv' := [(2, .int (S 1 r)), (0, .ref h), (1, .int (nI r))]) hx hb dX2_promotable_6 rfl hl (by decide) rfl (fun ls hl => ?_)
  refine lv_aload_n hx hb dX2_promotable_7 rfl (lv_at hl 1 rfl) ?_
  refine lv_iload_n hx hb dX2_promotable_8 rfl (lv_at hl 0 rfl) ?_
  have hPc : va_P K.1 vwCl (hw K h a S) H := hP
  refine xr_V (As := [.int (S 1 r)]) (rest := []) ⟨hx, hb, hml, hown, hts⟩ (c_X2_hasPlayer l K h a S (S 1 r)) (cwV 1 hts gX2_promotable_X2_hasPlayer rfl rfl rfl (by decide +kernel) ⟨Nat.le_of_ble_eq_true rfl, Nat.le_of_ble_eq_true rfl⟩) hK hPc 0 2 rfl rfl rfl rfl hl.1 rfl (Nat.le_of_ble_eq_true rfl) (Nat.le_of_ble_eq_true rfl) (Nat.le_of_ble_eq_true rfl) dX2_promotable_9 ?_
  have jn29 : ∀ (y : Int32) (ls : Array Slot), (y = prm0 S r P) → lv_has ls 6 [(0, .ref h), (1, .int (nI r)), (2, .int (S 1 r))] → W p9 l e9 rm_X2_promotable s9 m9 av9 below9 meth9 c9 H [] 0 0 Q9 (F0 m9 29 ls [.int y]) := by
    intro y ls hy hl
    refine lv_istore_n (lv' := [(3, .int y), (0, .ref h), (1, .int (nI r)), (2, .int (S 1 r))]) hx hb dX2_promotable_29 rfl hl (by decide) rfl (fun ls hl => ?_)
    refine lv_iconst (v := (-1 : Int32)) hx hb dX2_promotable_30 (by decide) ?_
    refine lv_istore (lv' := [(4, .int (-1 : Int32)), (3, .int y), (0, .ref h), (1, .int (nI r)), (2, .int (S 1 r))]) hx hb dX2_promotable_31 hl (by decide) rfl (fun ls hl => ?_)
    refine lv_iconst (v := (0 : Int32)) hx hb dX2_promotable_33 (by decide) ?_
    refine lv_istore (lv' := [(5, .int (0 : Int32)), (4, .int (-1 : Int32)), (3, .int y), (0, .ref h), (1, .int (nI r)), (2, .int (S 1 r))]) hx hb dX2_promotable_34 hl (by decide) rfl (fun ls hl => ?_)
    have lp36 : ∀ (n9 : Nat) (k : Nat) (ls : Array Slot), P - k < n9 → (k ≤ P) → lv_has ls 6 [(0, .ref h), (1, .int (nI r)), (2, .int (S 1 r)), (3, .int (prm S r P k).1), (4, .int (prm S r P k).2), (5, .int (nI k))] → W p9 l e9 rm_X2_promotable s9 m9 av9 below9 meth9 c9 H [] 0 0 Q9 (F0 m9 36 ls []) := by
      intro n9
      induction n9 with
      | zero => intro k ls hmu hk hl; exact absurd hmu (Nat.not_lt_zero _)
      | succ n9 ih36 =>
        intro k ls hmu hk hl
        refine lv_iload hx hb dX2_promotable_36 (lv_at hl 5 rfl) ?_
        refine lv_aload_n hx hb dX2_promotable_38 rfl (lv_at hl 0 rfl) ?_
        refine va_get (ci := 2) (v := .int (S 11 0)) (C := RX2) (T := TX2) (N := 17) hx hb hts hi2 hown hK hP 0 rfl rfl 11 (by decide) lk56 (fun _ h9 => h9) rfl dX2_promotable_39 ?_
        refine xn_icmp_ge (tgt := 82) hx hb k P rfl hP0 (by omega) (by omega) dX2_promotable_42 (by decide) (fun c_42 => ?_) (fun c_42 => ?_)
        · skip
          refine lv_iload hx hb dX2_promotable_82 (lv_at hl 4 rfl) ?_
          exact hend _ _ _ (by rw [show k = P by omega]) dX2_promotable_84
        · skip
          refine lv_aload_n hx hb dX2_promotable_45 rfl (lv_at hl 0 rfl) ?_
          refine va_get (ci := 2) (v := .ref (a 4)) (C := RX2) (T := TX2) (N := 17) hx hb hts hi2 hown hK hP 0 rfl rfl 4 (by decide) lk24 (fun _ h9 => h9) rfl dX2_promotable_46 ?_
          refine lv_iload hx hb dX2_promotable_49 (lv_at hl 5 rfl) ?_
          refine lv_iload_n hx hb dX2_promotable_51 rfl (lv_at hl 1 rfl) ?_
          have hPc := P_sub (ws' := []) hP [] rfl
          refine xr_S (As := [.int (nI k), .int (nI r)]) (rest := [.ref (a 4)]) ⟨hx, hb, hml, hown, hts⟩ (c_X2_cell l K k r) (va_cwS 2 hts gX2_promotable_X2_cell rfl rfl rfl (by decide +kernel) ⟨Nat.le_of_ble_eq_true rfl, Nat.le_of_ble_eq_true rfl⟩) hK hPc rfl hl.1 rfl (Nat.le_of_ble_eq_true rfl) (Nat.le_of_ble_eq_true rfl) (Nat.le_of_ble_eq_true rfl) dX2_promotable_52 ?_
          refine xi_ld hx hb hK hP 5 (f := S 4) rfl (r * 10 + k) rfl (by omega) (by decide) dX2_promotable_55 ?_
          refine lv_iload_n hx hb dX2_promotable_56 rfl (lv_at hl 3 rfl) ?_
          refine lv_icmp_le (tgt := 76) hx hb dX2_promotable_57 (by decide) (fun c_57 => ?_) (fun c_57 => ?_)
          · skip
            have c_57n := Int32.not_lt.mpr c_57
            refine lv_iinc (v := nI (k + 1)) (lv' := [(5, .int (nI (k + 1))), (0, .ref h), (1, .int (nI r)), (2, .int (S 1 r)), (3, .int (prm S r P k).1), (4, .int (prm S r P k).2)]) hx hb dX2_promotable_76 hl (k := 5) rfl (nI_1 _) (by decide) rfl (fun ls hl => ?_)
            refine lv_goto (tgt := 36) hx hb dX2_promotable_79 (by decide) ?_
            exact ih36 (k + 1) _ (by omega) (by first | omega | assumption | (simp [prm, c_42, c_57, c_57n]; done)) (lv_cons (lv_at hl 1 rfl) (lv_cons (lv_at hl 2 rfl) (lv_cons (lv_at hl 3 rfl) (lv_cons (lv_is (lv_at hl 4 rfl) (show (prm S r P k).1 = (prm S r P (k + 1)).1 by (simp [prm, c_42, c_57, c_57n]; done))) (lv_cons (lv_is (lv_at hl 5 rfl) (show (prm S r P k).2 = (prm S r P (k + 1)).2 by (simp [prm, c_42, c_57, c_57n]; done))) (lv_cons (lv_at hl 0 rfl) (lv_nil hl)))))))
          · skip
            have c_57n := Int32.not_le.mp c_57
            refine lv_aload_n hx hb dX2_promotable_60 rfl (lv_at hl 0 rfl) ?_
            refine va_get (ci := 2) (v := .ref (a 4)) (C := RX2) (T := TX2) (N := 17) hx hb hts hi2 hown hK hP 0 rfl rfl 4 (by decide) lk24 (fun _ h9 => h9) rfl dX2_promotable_61 ?_
            refine lv_iload hx hb dX2_promotable_64 (lv_at hl 5 rfl) ?_
            refine lv_iload_n hx hb dX2_promotable_66 rfl (lv_at hl 1 rfl) ?_
            have hPc := P_sub (ws' := []) hP [] rfl
            refine xr_S (As := [.int (nI k), .int (nI r)]) (rest := [.ref (a 4)]) ⟨hx, hb, hml, hown, hts⟩ (c_X2_cell l K k r) (va_cwS 2 hts gX2_promotable_X2_cell rfl rfl rfl (by decide +kernel) ⟨Nat.le_of_ble_eq_true rfl, Nat.le_of_ble_eq_true rfl⟩) hK hPc rfl hl.1 rfl (Nat.le_of_ble_eq_true rfl) (Nat.le_of_ble_eq_true rfl) (Nat.le_of_ble_eq_true rfl) dX2_promotable_67 ?_
            refine xi_ld hx hb hK hP 5 (f := S 4) rfl (r * 10 + k) rfl (by omega) (by decide) dX2_promotable_70 ?_
            refine lv_istore_n (lv' := [(3, .int (S 4 (r * 10 + k))), (0, .ref h), (1, .int (nI r)), (2, .int (S 1 r)), (4, .int (prm S r P k).2), (5, .int (nI k))]) hx hb dX2_promotable_71 rfl hl (by decide) rfl (fun ls hl => ?_)
            refine lv_iload hx hb dX2_promotable_72 (lv_at hl 5 rfl) ?_
            refine lv_istore (lv' := [(4, .int (nI k)), (3, .int (S 4 (r * 10 + k))), (0, .ref h), (1, .int (nI r)), (2, .int (S 1 r)), (5, .int (nI k))]) hx hb dX2_promotable_74 hl (by decide) rfl (fun ls hl => ?_)
            refine lv_iinc (v := nI (k + 1)) (lv' := [(5, .int (nI (k + 1))), (4, .int (nI k)), (3, .int (S 4 (r * 10 + k))), (0, .ref h), (1, .int (nI r)), (2, .int (S 1 r))]) hx hb dX2_promotable_76 hl (k := 5) rfl (nI_1 _) (by decide) rfl (fun ls hl => ?_)
            refine lv_goto (tgt := 36) hx hb dX2_promotable_79 (by decide) ?_
            exact ih36 (k + 1) _ (by omega) (by first | omega | assumption | (simp [prm, c_42, c_57, c_57n]; done)) (lv_cons (lv_at hl 3 rfl) (lv_cons (lv_at hl 4 rfl) (lv_cons (lv_at hl 5 rfl) (lv_cons (lv_is (lv_at hl 2 rfl) (show S 4 (r * 10 + k) = (prm S r P (k + 1)).1 by (simp [prm, c_42, c_57, c_57n]; done))) (lv_cons (lv_is (lv_at hl 1 rfl) (show nI k = (prm S r P (k + 1)).2 by (simp [prm, c_42, c_57, c_57n]; done))) (lv_cons (lv_at hl 0 rfl) (lv_nil hl)))))))
    exact lp36 _ 0 _ (Nat.lt_succ_self _) (by first | omega | assumption | first | exact hy | rfl) (lv_cons (lv_at hl 3 rfl) (lv_cons (lv_at hl 4 rfl) (lv_cons (lv_at hl 5 rfl) (lv_cons (lv_is (lv_at hl 2 rfl) (show y = (prm S r P 0).1 by first | exact hy | rfl)) (lv_cons (lv_is (lv_at hl 1 rfl) (show (-1 : Int32) = (prm S r P 0).2 by first | exact hy | rfl)) (lv_cons (lv_is (lv_at hl 0 rfl) (show (0 : Int32) = nI 0 by first | exact hy | rfl)) (lv_nil hl)))))))
  refine xb_if_eq (tgt := 28) hx hb dX2_promotable_12 (by decide) (fun c_12 => ?_) (fun c_12 => ?_)
  · skip
    refine lv_iconst (v := (0 : Int32)) hx hb dX2_promotable_28 (by decide) ?_
    exact jn29 (0 : Int32) _ (by first | omega | assumption | first | (unfold prm0; rw [if_neg c_12]; done) | (unfold prm0; rw [if_pos c_12, nI_cl hq (by omega)])) (lv_cons (lv_at hl 1 rfl) (lv_cons (lv_at hl 2 rfl) (lv_cons (lv_at hl 0 rfl) (lv_nil hl))))
  · skip
    obtain ⟨q, hqP, hq⟩ := idx_of hP0 hP0b c_12
    refine lv_aload_n hx hb dX2_promotable_15 rfl (lv_at hl 1 rfl) ?_
    refine va_get (ci := 2) (v := .ref (a 4)) (C := RX2) (T := TX2) (N := 17) hx hb hts hi2 hown hK hP 0 rfl rfl 4 (by decide) lk24 (fun _ h9 => h9) rfl dX2_promotable_16 ?_
    refine lv_iload_n hx hb dX2_promotable_19 rfl (lv_at hl 0 rfl) ?_
    refine lv_iload_n hx hb dX2_promotable_20 rfl (lv_at hl 2 rfl) ?_
    rw [show S 1 r = nI q from hq]
    have hPc := P_sub (ws' := []) hP [] rfl
    refine xr_S (As := [.int (nI q), .int (nI r)]) (rest := [.ref (a 4)]) ⟨hx, hb, hml, hown, hts⟩ (c_X2_cell l K q r) (va_cwS 2 hts gX2_promotable_X2_cell rfl rfl rfl (by decide +kernel) ⟨Nat.le_of_ble_eq_true rfl, Nat.le_of_ble_eq_true rfl⟩) hK hPc rfl hl.1 rfl (Nat.le_of_ble_eq_true rfl) (Nat.le_of_ble_eq_true rfl) (Nat.le_of_ble_eq_true rfl) dX2_promotable_21 ?_
    refine xi_ld hx hb hK hP 5 (f := S 4) rfl (r * 10 + q) rfl (by omega) (by decide) dX2_promotable_24 ?_
    refine lv_goto (tgt := 29) hx hb dX2_promotable_25 (by decide) ?_
    exact jn29 (S 4 (r * 10 + q)) _ (by first | omega | assumption | first | (unfold prm0; rw [if_neg c_12]; done) | (unfold prm0; rw [if_pos c_12, nI_cl hq (by omega)])) (lv_cons (lv_at hl 1 rfl) (lv_cons (lv_at hl 2 rfl) (lv_cons (lv_at hl 0 rfl) (lv_nil hl))))

abbrev rm_X2_takesRole : Room := { frames := 0, cells := 0, slots := 0, locals := 0 }
set_option maxHeartbeats 4000000 in
set_option maxRecDepth 100000 in
theorem c_X2_takesRole (l : Launch) (K : KX) (h : Nat) (a : Nat → Nat) (S : HV) (hz : S 16 0 = 0 ∨ S 16 0 = 1) : Met l yX2_takesRole wsX2_takesRole rm_X2_takesRole (va_Pc [.ref h] (xRead K (hw K h a S))) (vp_Si (fun r9 => r9 = bI (S 10 0 < 6 ∧ S 16 0 = 0))) 0 0 (fun _ => False) := by
  refine xr_startz (cc := cX2_takesRole) (maxL := 1) (ret := .boolean) (by decide) rfl (Nat.le_of_ble_eq_true rfl) ?_
  intro p9 e9 s9 m9 below9 meth9 c9 H ls av9 Q9 hx hb hlocks hml hts hown hK hP hend hl
  have hown : s9.vm.findClass RX2 = some m9.cls := hown
  have hl : lv_has ls 1 [(0, .ref h)] := hl
  have hi2 : ∀ w ∈ u_ws RX2 TX2 17, w ∈ wsX2_takesRole := by decide +kernel
  have lk52 := hts (.fieldLink RX2 52 "StandIns$House" "roles" "I") (by decide +kernel)
  have lk71 := hts (.fieldLink RX2 71 "StandIns$House" "posted" "Z") (by decide +kernel)
  refine lv_aload_n hx hb dX2_takesRole_0 rfl (lv_at hl 0 rfl) ?_
  refine va_get (ci := 2) (v := .int (S 10 0)) (C := RX2) (T := TX2) (N := 17) hx hb hts hi2 hown hK hP 0 rfl rfl 10 (by decide) lk52 (fun _ h9 => h9) rfl dX2_takesRole_1 ?_
  refine lv_bipush (v := (6 : Int32)) hx hb dX2_takesRole_4 (by decide) ?_
  refine lv_icmp_ge (tgt := 20) hx hb dX2_takesRole_6 (by decide) (fun c_6 => ?_) (fun c_6 => ?_)
  · skip
    have c_6n := Int32.not_lt.mpr c_6
    refine lv_iconst (v := (0 : Int32)) hx hb dX2_takesRole_20 (by decide) ?_
    exact hend _ _ _ (by decide) (by first | rfl | (simp [bI, c_6, c_6n]; done) | omega) dX2_takesRole_21
  · skip
    have c_6n := Int32.not_le.mp c_6
    refine lv_aload_n hx hb dX2_takesRole_9 rfl (lv_at hl 0 rfl) ?_
    refine va_get (ci := 2) (v := .int (S 16 0)) (C := RX2) (T := TX2) (N := 17) hx hb hts hi2 hown hK hP 0 rfl rfl 16 (by decide) lk71 (fun _ h9 => h9) rfl dX2_takesRole_10 ?_
    refine lv_if_ne (tgt := 20) hx hb dX2_takesRole_13 (by decide) (fun c_13 => ?_) (fun c_13 => ?_)
    · skip
      refine lv_iconst (v := (0 : Int32)) hx hb dX2_takesRole_20 (by decide) ?_
      exact hend _ _ _ (by decide) (by first | rfl | (simp [bI, c_6, c_6n, c_13]; done) | omega) dX2_takesRole_21
    · skip
      refine lv_iconst (v := (1 : Int32)) hx hb dX2_takesRole_16 (by decide) ?_
      refine lv_goto (tgt := 21) hx hb dX2_takesRole_17 (by decide) ?_
      exact hend _ _ _ (by decide) (by first | rfl | (simp [bI, c_6, c_6n, c_13]; done) | omega) dX2_takesRole_21

abbrev rm_X2_takesPlayer : Room := { frames := 0, cells := 0, slots := 0, locals := 0 }
set_option maxHeartbeats 4000000 in
set_option maxRecDepth 100000 in
theorem c_X2_takesPlayer (l : Launch) (K : KX) (h : Nat) (a : Nat → Nat) (S : HV) : Met l yX2_takesPlayer wsX2_takesPlayer rm_X2_takesPlayer (va_Pc [.ref h] (xRead K (hw K h a S))) (vp_Si (fun r9 => r9 = bI (S 11 0 < 10))) 0 0 (fun _ => False) := by
  refine xr_startz (cc := cX2_takesPlayer) (maxL := 1) (ret := .boolean) (by decide) rfl (Nat.le_of_ble_eq_true rfl) ?_
  intro p9 e9 s9 m9 below9 meth9 c9 H ls av9 Q9 hx hb hlocks hml hts hown hK hP hend hl
  have hown : s9.vm.findClass RX2 = some m9.cls := hown
  have hl : lv_has ls 1 [(0, .ref h)] := hl
  have hi2 : ∀ w ∈ u_ws RX2 TX2 17, w ∈ wsX2_takesPlayer := by decide +kernel
  have lk56 := hts (.fieldLink RX2 56 "StandIns$House" "players" "I") (by decide +kernel)
  refine lv_aload_n hx hb dX2_takesPlayer_0 rfl (lv_at hl 0 rfl) ?_
  refine va_get (ci := 2) (v := .int (S 11 0)) (C := RX2) (T := TX2) (N := 17) hx hb hts hi2 hown hK hP 0 rfl rfl 11 (by decide) lk56 (fun _ h9 => h9) rfl dX2_takesPlayer_1 ?_
  refine lv_bipush (v := (10 : Int32)) hx hb dX2_takesPlayer_4 (by decide) ?_
  refine lv_icmp_ge (tgt := 13) hx hb dX2_takesPlayer_6 (by decide) (fun c_6 => ?_) (fun c_6 => ?_)
  · skip
    have c_6n := Int32.not_lt.mpr c_6
    refine lv_iconst (v := (0 : Int32)) hx hb dX2_takesPlayer_13 (by decide) ?_
    exact hend _ _ _ (by decide) (by first | rfl | (simp [bI, c_6, c_6n]; done) | omega) dX2_takesPlayer_14
  · skip
    have c_6n := Int32.not_le.mp c_6
    refine lv_iconst (v := (1 : Int32)) hx hb dX2_takesPlayer_9 (by decide) ?_
    refine lv_goto (tgt := 14) hx hb dX2_takesPlayer_10 (by decide) ?_
    exact hend _ _ _ (by decide) (by first | rfl | (simp [bI, c_6, c_6n]; done) | omega) dX2_takesPlayer_14

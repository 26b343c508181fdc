/-! the text -/
theorem i2c_n {x : Int32} {c : Nat} (h : x = nI c) (hc : c < 65536) : (x.toUInt32 % 65536).toInt32 = nI c := by
  subst h
  apply Int32.toBitVec_inj.1
  apply BitVec.eq_of_toNat_eq
  show ((nI c).toUInt32 % 65536).toNat = (nI c).toUInt32.toNat
  rw [UInt32.toNat_mod]
  have h1 : (nI c).toUInt32.toNat = c := by
    show (BitVec.ofNat 32 c).toNat = c
    rw [BitVec.toNat_ofNat]
    omega
  rw [h1]
  exact Nat.mod_eq_of_lt hc
theorem nar_c {c : Nat} (h : c < 65536) : vp_nar .char (nI c) = nI c := by
  show ((nI c).toUInt32 % 65536).toInt32 = nI c
  exact i2c_n rfl h
theorem xc_st {p : Program} {l : Launch} {e : Env} {R : Room} {s : State} {m : MethodId} {args : Array Value} {below : List Frame} {meth : Method} {c : Code} {H : Heap} {locs : List Loc} {cells slots : Nat} {Q : State → Prop}
  {cc : ByteArray} {pc : Nat} {ls : Array Slot} {rest : List Value} {K : KX} {A : Nat → Prop} {a : Nat} {ws : va_W} {H0 : Heap} (hx : p.tables.exec = Jvm.exec) (hb : c.code = cc) (hK : va_K K.1 vwCl (kt K) s) (hP : va_P K.1 vwCl ws H) (hD : va_D A ws) (hS : va_S A H0 H locs) (q0 : Nat) {n : Nat} {f : Nat → Int32} (ha : ws[q0]? = some (a, aC K n f)) {i x : Int32} (j : Nat) (hi : i = nI j) (hj : j < n) (hn : n < 2 ^ 31) (hv : vp_nar .char x = x) (wn : va_W) (hwn : ws.set q0 (a, aC K n (upd f j x)) = wn) (hdg : decode cc pc = .ok (.castore, 1))
    (kk : ∀ (H1 : Heap) (locs1 : List Loc), va_P K.1 vwCl wn H1 → va_D A wn → va_S A H0 H1 locs1 → W p l e R s m args below meth c H1 locs1 cells slots Q (F0 m (pc + 1) ls rest)) : W p l e R s m args below meth c H locs cells slots Q (F0 m pc ls (.int x :: .int i :: .ref a :: rest)) := by
  subst hi
  subst hwn
  refine va_cast hx hb hK hP hD hS q0 2 ha rfl (vp_in_nI hj hn) hdg (fun H1 locs1 h1 h2 h3 => ?_)
  rw [nI_clamp (Nat.lt_trans hj hn), hv] at h1 h2
  exact kk H1 locs1 h1 h2 h3
def tPut (T : HV) (L c : Nat) : HV := hput (hset T 0 L (nI c)) 1 (T 1 0 + 1)
def dgB (c : Nat) : Nat := if c = 97 then 2 else if c = 100 then 1 else if c = 102 then 2 else if c = 114 then 1 else if c = 121 then 3 else 0
theorem dgB_le (c : Nat) : dgB c ≤ 3 := by
  unfold dgB
  repeat' split
  all_goals omega
def ldD (c i : Nat) : Nat := if c = 114 ∨ c = 100 ∨ (c = 97 ∧ i = 2) then 49 else 48
def gdD (c i : Nat) : Nat := if (c = 121 ∧ i = 2) ∨ (c = 102 ∧ i = 1) then 53 else 57
abbrev isC (c : Nat) : Prop := c = 112 ∨ c = 103 ∨ 0 < dgB c
theorem ldD_le (c i : Nat) : 48 ≤ ldD c i ∧ ldD c i ≤ 49 := by unfold ldD; split <;> omega
theorem gdD_le (c i : Nat) : 53 ≤ gdD c i ∧ gdD c i ≤ 57 := by unfold gdD; split <;> omega
def ebF (ch : Nat → Nat) (L a : Nat) : Nat → Nat → Int32
  | _, 0 => -1
  | i, n + 1 => if L ≤ a + i then nI L else if ch (a + i) < ldD (ch a) i ∨ gdD (ch a) i < ch (a + i) then nI (a + i) else ebF ch L a (i + 1) n
theorem ebF_s {ch : Nat → Nat} {L a i d : Nat} (h : i ≤ d) : ebF ch L a i (d + 1 - i) = if L ≤ a + i then nI L else if ch (a + i) < ldD (ch a) i ∨ gdD (ch a) i < ch (a + i) then nI (a + i) else ebF ch L a (i + 1) (d + 1 - (i + 1)) := by
  obtain ⟨n, hn⟩ : ∃ n, d + 1 - i = n + 1 := ⟨d - i, by omega⟩
  rw [hn, ebF, show d + 1 - (i + 1) = n by omega]
theorem ebF_e {ch : Nat → Nat} {L a i d : Nat} (h : d < i) : ebF ch L a i (d + 1 - i) = -1 := by
  rw [show d + 1 - i = 0 by omega, ebF]
def feF (ch : Nat → Nat) (L : Nat) : Nat → Nat → Int32
  | 0, _ => -1
  | n + 1, a => if L ≤ a then -1 else if ¬ isC (ch a) then nI a else if ebF ch L a 1 (dgB (ch a)) = -1 then feF ch L n (a + (1 + dgB (ch a))) else ebF ch L a 1 (dgB (ch a))
theorem feF_s {ch : Nat → Nat} {L n a : Nat} (h : a < L) (hn : L ≤ a + n) : feF ch L n a = if ¬ isC (ch a) then nI a else if ebF ch L a 1 (dgB (ch a)) = -1 then feF ch L (n - 1) (a + (1 + dgB (ch a))) else ebF ch L a 1 (dgB (ch a)) := by
  obtain ⟨n2, rfl⟩ : ∃ n2, n = n2 + 1 := ⟨n - 1, by omega⟩
  rw [feF, if_neg (by omega)]
  rfl
theorem feF_e {ch : Nat → Nat} {L n a : Nat} (h : L ≤ a) : feF ch L n a = -1 := by
  cases n with
  | zero => rfl
  | succ n => rw [feF, if_pos h]
def ferF (ch : Nat → Nat) (L : Nat) : Int32 := if L = 0 ∨ ch 0 ≠ 72 then 0 else feF ch L 120 1
def posC (ch : Nat → Nat) : Nat → Nat | 0 => 1 | k + 1 => posC ch k + (1 + dgB (ch (posC ch k)))
def okC (ch : Nat → Nat) (L a : Nat) : Prop := isC (ch a) ∧ ∀ j, 1 ≤ j → j ≤ dgB (ch a) → a + j < L ∧ ldD (ch a) j ≤ ch (a + j) ∧ ch (a + j) ≤ gdD (ch a) j
theorem ebF_ok {ch : Nat → Nat} {L a : Nat} (hL : L < 2 ^ 31) : ∀ (n i : Nat), ebF ch L a i n = -1 → ∀ j, i ≤ j → j < i + n → a + j < L ∧ ldD (ch a) j ≤ ch (a + j) ∧ ch (a + j) ≤ gdD (ch a) j
  | 0, i, _, j, h1, h2 => by omega
  | n + 1, i, h, j, h1, h2 => by
    unfold ebF at h
    split at h
    · exact absurd h (nI_m1 hL)
    · rename_i c1
      split at h
      · exact absurd h (nI_m1 (by omega))
      · rename_i c2
        by_cases e : j = i
        · subst e
          omega
        · exact ebF_ok hL n (i + 1) h j (by omega) (by omega)
theorem feF_ok {ch : Nat → Nat} {L : Nat} (hL : L < 2 ^ 30) : ∀ (n : Nat) (k0 : Nat), L ≤ posC ch k0 + n → feF ch L n (posC ch k0) = -1 → ∀ k, k0 ≤ k → posC ch k < L → okC ch L (posC ch k)
  | 0, k0, hn, _, k, hk, hp => by
    exfalso
    have hm : ∀ d, posC ch k0 ≤ posC ch (k0 + d) := by
      intro d
      induction d with
      | zero => exact Nat.le_refl _
      | succ d ih => rw [show k0 + (d + 1) = (k0 + d) + 1 by omega, posC]; omega
    have h2 := hm (k - k0)
    rw [show k0 + (k - k0) = k by omega] at h2
    omega
  | n + 1, k0, hn, h, k, hk, hp => by
    by_cases c : L ≤ posC ch k0
    · have hm : ∀ d, posC ch k0 ≤ posC ch (k0 + d) := by
        intro d
        induction d with
        | zero => exact Nat.le_refl _
        | succ d ih => rw [show k0 + (d + 1) = (k0 + d) + 1 by omega, posC]; omega
      have h2 := hm (k - k0)
      rw [show k0 + (k - k0) = k by omega] at h2
      omega
    · rw [feF, if_neg c] at h
      split at h
      · exact absurd h (nI_m1 (by omega))
      · rename_i c1
        split at h
        · rename_i c2
          by_cases e : k = k0
          · subst e
            refine ⟨Decidable.not_not.mp c1, fun j h1 h2 => ebF_ok (by omega) _ 1 c2 j h1 (by omega)⟩
          · exact feF_ok hL n (k0 + 1) (by rw [posC]; omega) h k (by omega) hp
        · rename_i c2
          exact absurd h c2
theorem fer_ok {ch : Nat → Nat} {L : Nat} (hL : L ≤ 120) (h : ferF ch L = -1) : ∀ k, posC ch k < L → okC ch L (posC ch k) := by
  unfold ferF at h
  split at h
  · exact absurd h (by decide)
  · exact fun k hk => feF_ok (by omega) 120 0 (by rw [posC]; omega) h k (Nat.zero_le _) hk
/-- a command done: the house, its roles, its players -/
def dnT (X : HV × Nat × Nat) (c a b d : Nat) : HV × Nat × Nat :=
  if c = 97 then (if a < X.2.2 ∧ 1 ≤ b ∧ b ≤ 99 then hAway X.1 a b else X.1, X.2.1, X.2.2) else
  if c = 100 then (if 1 ≤ a ∧ a ≤ 99 then hPass X.1 a else X.1, X.2.1, X.2.2) else
  if c = 102 then (if b < X.2.2 ∧ a < X.2.1 then hset X.1 1 a (nI b) else X.1, X.2.1, X.2.2) else
  if c = 112 then (if X.2.2 < 10 then hPutPlayer X.1 else X.1, X.2.1, if X.2.2 < 10 then X.2.2 + 1 else X.2.2) else
  if c = 114 then (if X.2.1 < 6 then hPutRole X.1 X.2.1 (nI a) else X.1, if X.2.1 < 6 then X.2.1 + 1 else X.2.1, X.2.2) else
  if c = 121 then (if a < X.2.2 ∧ b < X.2.1 then hset X.1 3 (b * 10 + a) (nI d) else X.1, X.2.1, X.2.2) else
  (if X.2.1 = 0 then X.1 else hPlay X.1 X.2.1 X.2.2, X.2.1, X.2.2)
def dnB (X : HV × Nat × Nat) (c a b : Nat) : Bool :=
  if c = 97 then decide (a < X.2.2 ∧ 1 ≤ b ∧ b ≤ 99) else
  if c = 100 then decide (1 ≤ a ∧ a ≤ 99) else
  if c = 102 then decide (b < X.2.2 ∧ a < X.2.1) else
  if c = 112 then decide (X.2.2 < 10) else
  if c = 114 then decide (X.2.1 < 6) else
  if c = 121 then decide (a < X.2.2 ∧ b < X.2.1) else decide (X.2.1 ≠ 0)
def dcT (ch : Nat → Nat) (X : HV × Nat × Nat) : Nat → HV × Nat × Nat | 0 => X | k + 1 => dnT (dcT ch X k) (ch (posC ch k)) (ch (posC ch k + 1) - 48) (ch (posC ch k + 2) - 48) (ch (posC ch k + 3) - 48)
def dcO (ch : Nat → Nat) (X : HV × Nat × Nat) : Nat → Nat | 0 => 0 | k + 1 => if dnB (dcT ch X k) (ch (posC ch k)) (ch (posC ch k + 1) - 48) (ch (posC ch k + 2) - 48) = true then dcO ch X k else dcO ch X k + 1
abbrev dcI (X : HV × Nat × Nat) : Prop := X.1 10 0 = nI X.2.1 ∧ X.2.1 ≤ 6 ∧ X.1 11 0 = nI X.2.2 ∧ X.2.2 ≤ 10 ∧ X.1 16 0 = 0
theorem dnT_ok {X : HV × Nat × Nat} (h : dcI X) (c a b d : Nat) : dcI (dnT X c a b d) := by
  obtain ⟨S, R, P⟩ := X
  obtain ⟨h1, h2, h3, h4, h5⟩ := h
  have h1 : S 10 0 = nI R := h1
  have h2 : R ≤ 6 := h2
  have h3 : S 11 0 = nI P := h3
  have h4 : P ≤ 10 := h4
  have h5 : S 16 0 = nI 0 := h5
  unfold dnT
  by_cases e1 : c = 97
  · rw [if_pos e1]
    exact ⟨kp_ite (kp_Away (by omega) h1) h1, h2, kp_ite (kp_Away (by omega) h3) h3, h4, kp_ite (kp_Away (by omega) h5) h5⟩
  rw [if_neg e1]
  by_cases e2 : c = 100
  · rw [if_pos e2]
    exact ⟨kp_ite (kp_Pass (by omega) h1) h1, h2, kp_ite (kp_Pass (by omega) h3) h3, h4, kp_ite (n := 0) rfl h5⟩
  rw [if_neg e2]
  by_cases e3 : c = 102
  · rw [if_pos e3]
    exact ⟨kp_ite (kp_set (by omega) h1) h1, h2, kp_ite (kp_set (by omega) h3) h3, h4, kp_ite (kp_set (by omega) h5) h5⟩
  rw [if_neg e3]
  by_cases e4 : c = 112
  · rw [if_pos e4]
    by_cases e : P < 10
    · simp only [if_pos e]
      refine ⟨h1, h2, ?_, by show P + 1 ≤ 10; omega, h5⟩
      show S 11 0 + 1 = nI (P + 1)
      rw [h3, nI_1]
    · simp only [if_neg e]
      exact ⟨h1, h2, h3, h4, h5⟩
  rw [if_neg e4]
  by_cases e5 : c = 114
  · rw [if_pos e5]
    by_cases e : R < 6
    · simp only [if_pos e]
      refine ⟨?_, by show R + 1 ≤ 6; omega, h3, h4, h5⟩
      show S 10 0 + 1 = nI (R + 1)
      rw [h1, nI_1]
    · simp only [if_neg e]
      exact ⟨h1, h2, h3, h4, h5⟩
  rw [if_neg e5]
  by_cases e6 : c = 121
  · rw [if_pos e6]
    exact ⟨kp_ite (kp_set (by omega) h1) h1, h2, kp_ite (kp_set (by omega) h3) h3, h4, kp_ite (kp_set (by omega) h5) h5⟩
  rw [if_neg e6]
  exact ⟨kp_ite h1 (kp_Play (by omega) h1), h2, kp_ite h3 (kp_Play (by omega) h3), h4, kp_ite h5 (n := 0) rfl⟩
theorem dcT_ok {ch : Nat → Nat} {X : HV × Nat × Nat} (h : dcI X) : ∀ k, dcI (dcT ch X k)
  | 0 => h
  | k + 1 => dnT_ok (dcT_ok h k) _ _ _ _
theorem posC_k {ch : Nat → Nat} : ∀ k, k + 1 ≤ posC ch k
  | 0 => Nat.le_refl _
  | k + 1 => by
    have := posC_k (ch := ch) k
    rw [posC]
    omega

abbrev rm_X3_size : Room := { frames := 0, cells := 0, slots := 0, locals := 0 }
set_option maxHeartbeats 4000000 in
set_option maxRecDepth 100000 in
theorem c_X3_size (l : Launch) (K : KX) (h : Nat) (a : Nat → Nat) (T : HV) : Met l yX3_size wsX3_size rm_X3_size (va_Pc [.ref h] (xRead K (tw K h a T))) (vp_Si (fun r9 => r9 = T 1 0)) 0 0 (fun _ => False) := by
  refine xr_starti (cc := cX3_size) (maxL := 1) (by decide) rfl (Nat.le_of_ble_eq_true rfl) ?_
  intro p9 e9 s9 m9 below9 meth9 c9 H ls av9 Q9 hx hb hlocks hml hts hown hK hP hend hl
  have hown : s9.vm.findClass RX3 = some m9.cls := hown
  have hl : lv_has ls 1 [(0, .ref h)] := hl
  have hi3 : ∀ w ∈ u_ws RX3 TX3 2, w ∈ wsX3_size := by decide +kernel
  have lk15 := hts (.fieldLink RX3 15 "StandIns$Text" "length" "I") (by decide +kernel)
  refine lv_aload_n hx hb dX3_size_0 rfl (lv_at hl 0 rfl) ?_
  refine va_get (ci := 3) (v := .int (T 1 0)) (C := RX3) (T := TX3) (N := 2) hx hb hts hi3 hown hK hP 0 rfl rfl 1 (by decide) lk15 (fun _ h9 => h9) rfl dX3_size_1 ?_
  exact hend _ _ _ (by first | rfl | (simp; done) | omega) dX3_size_4

abbrev rm_X3_isFull : Room := { frames := 0, cells := 0, slots := 0, locals := 0 }
set_option maxHeartbeats 4000000 in
set_option maxRecDepth 100000 in
theorem c_X3_isFull (l : Launch) (K : KX) (h : Nat) (a : Nat → Nat) (T : HV) (L : Nat) (hL0 : T 1 0 = nI L) (hL0b : L ≤ 120) : Met l yX3_isFull wsX3_isFull rm_X3_isFull (va_Pc [.ref h] (xRead K (tw K h a T))) (vp_Si (fun r9 => r9 = bI (120 ≤ L))) 0 0 (fun _ => False) := by
  refine xr_startz (cc := cX3_isFull) (maxL := 1) (ret := .boolean) (by decide) rfl (Nat.le_of_ble_eq_true rfl) ?_
  intro p9 e9 s9 m9 below9 meth9 c9 H ls av9 Q9 hx hb hlocks hml hts hown hK hP hend hl
  have hown : s9.vm.findClass RX3 = some m9.cls := hown
  have hl : lv_has ls 1 [(0, .ref h)] := hl
  have hi3 : ∀ w ∈ u_ws RX3 TX3 2, w ∈ wsX3_isFull := by decide +kernel
  have lk15 := hts (.fieldLink RX3 15 "StandIns$Text" "length" "I") (by decide +kernel)
  refine lv_aload_n hx hb dX3_isFull_0 rfl (lv_at hl 0 rfl) ?_
  refine va_get (ci := 3) (v := .int (T 1 0)) (C := RX3) (T := TX3) (N := 2) hx hb hts hi3 hown hK hP 0 rfl rfl 1 (by decide) lk15 (fun _ h9 => h9) rfl dX3_isFull_1 ?_
  refine lv_bipush (v := (120 : Int32)) hx hb dX3_isFull_4 (by decide) ?_
  refine xn_icmp_lt (tgt := 13) hx hb L 120 hL0 rfl (by omega) (by decide) dX3_isFull_6 (by decide) (fun c_6 => ?_) (fun c_6 => ?_)
  · skip
    refine lv_iconst (v := (0 : Int32)) hx hb dX3_isFull_13 (by decide) ?_
    exact hend _ _ _ (by decide) (by first | exact (bI_t c_6).symm | exact (bI_f (Nat.not_le.mpr c_6)).symm) dX3_isFull_14
  · skip
    refine lv_iconst (v := (1 : Int32)) hx hb dX3_isFull_9 (by decide) ?_
    refine lv_goto (tgt := 14) hx hb dX3_isFull_10 (by decide) ?_
    exact hend _ _ _ (by decide) (by first | exact (bI_t c_6).symm | exact (bI_f (Nat.not_le.mpr c_6)).symm) dX3_isFull_14

abbrev rm_X3_put : Room := { frames := 1, cells := 0, slots := 0, locals := 20 }
set_option maxHeartbeats 4000000 in
set_option maxRecDepth 100000 in
theorem c_X3_put (l : Launch) (K : KX) (h : Nat) (a : Nat → Nat) (T : HV) (x : Nat) (hx : x < 256) (L : Nat) (hL0 : T 1 0 = nI L) (hL0b : L ≤ 120) (sz : Nat) : Met l yX3_put wsX3_put rm_X3_put (va_Pc [.ref h, .int (nI x)] (xPre K (tw K h a T) sz)) (va_Qv (fun _u : Unit => True) (fun _u t => xPost K (va_A (tw K h a T) sz) (tw K h a (if L < 120 then tPut T L x else T)) t) (va_A (tw K h a T) sz)) 0 0 (va_A (tw K h a T) sz) := by
  refine xw_startv (cc := cX3_put) (maxL := 2) (by decide) rfl (Nat.le_of_ble_eq_true rfl) ?_
  intro p9 e9 s9 m9 below9 meth9 c9 H locs ls A av9 Q9 hx hb hlocks hml hname hts hown hK hP hD hS hA hsz hend hl
  have hown : s9.vm.findClass RX3 = some m9.cls := hown
  have hl : lv_has ls 2 [(0, .ref h), (1, .int (nI x))] := hl
  have hi3 : ∀ w ∈ u_ws RX3 TX3 2, w ∈ wsX3_put := by decide +kernel
  have lk9 := hts (.fieldLink RX3 9 "StandIns$Text" "signs" "[C") (by decide +kernel)
  have lk15 := hts (.fieldLink RX3 15 "StandIns$Text" "length" "I") (by decide +kernel)
  refine lv_aload_n hx hb dX3_put_0 rfl (lv_at hl 0 rfl) ?_
  have hPc : va_P K.1 vwCl (tw K h a T) H := hP
  refine xr_V (As := []) (rest := []) ⟨hx, hb, hml, hown, hts⟩ (c_X3_isFull l K h a T L hL0 (by omega)) (cwV 0 hts gX3_put_X3_isFull rfl rfl rfl (by decide +kernel) ⟨Nat.le_of_ble_eq_true rfl, Nat.le_of_ble_eq_true rfl⟩) hK hPc 0 3 rfl rfl rfl rfl hl.1 rfl (Nat.le_of_ble_eq_true rfl) (Nat.le_of_ble_eq_true rfl) (Nat.le_of_ble_eq_true rfl) dX3_put_1 ?_
  refine xb_if_ne (tgt := 28) hx hb dX3_put_4 (by decide) (fun c_4 => ?_) (fun c_4 => ?_)
  · skip
    have eS0 : (T) = if L < 120 then tPut T L x else T := by first | exact (if_pos (by omega)).symm | exact (if_neg (by omega)).symm
    rw [eS0] at hP hD
    exact hend _ _ _ _ _ _ () hP hD hS (Nat.le_of_ble_eq_true rfl) (Nat.le_of_ble_eq_true rfl) trivial dX3_put_28
  · skip
    refine lv_aload_n hx hb dX3_put_7 rfl (lv_at hl 0 rfl) ?_
    refine va_get (ci := 3) (v := .ref (a 0)) (C := RX3) (T := TX3) (N := 2) hx hb hts hi3 hown hK hP 0 rfl rfl 0 (by decide) lk9 (fun _ h9 => h9) rfl dX3_put_8 ?_
    refine lv_aload_n hx hb dX3_put_11 rfl (lv_at hl 0 rfl) ?_
    refine va_get (ci := 3) (v := .int (T 1 0)) (C := RX3) (T := TX3) (N := 2) hx hb hts hi3 hown hK hP 0 rfl rfl 1 (by decide) lk15 (fun _ h9 => h9) rfl dX3_put_12 ?_
    refine lv_iload_n hx hb dX3_put_15 rfl (lv_at hl 1 rfl) ?_
    refine lv_i2c (v := nI x) hx hb dX3_put_16 (i2c_n rfl (by omega)) ?_
    refine xc_st hx hb hK hP hD hS 1 (f := T 0) rfl L hL0 (by omega) (by decide) (nar_c (by omega)) (tw K h a (hset T 0 L (nI x))) rfl dX3_put_17 (fun H locs hP hD hS => ?_)
    refine lv_aload_n hx hb dX3_put_18 rfl (lv_at hl 0 rfl) ?_
    refine lv_dup hx hb dX3_put_19 rfl ?_
    refine va_get (ci := 3) (v := .int (T 1 0)) (C := RX3) (T := TX3) (N := 2) hx hb hts hi3 hown hK hP 0 rfl rfl 1 (by decide) lk15 (fun _ h9 => h9) rfl dX3_put_20 ?_
    refine lv_iconst (v := (1 : Int32)) hx hb dX3_put_23 (by decide) ?_
    refine lv_iadd hx hb dX3_put_24 ?_
    refine va_put (ci := 3) (v := .int ((T 1 0) + (1 : Int32))) (ty := .int) (C := RX3) (T := TX3) (N := 2) hx hb hts hi3 tyX3 tyX3_ok nmX3 hown hK hP hD hS 0 rfl rfl 1 (by decide) lk15 (fun _ h9 => h9) rfl (by decide +kernel) rfl rfl (Nat.le_of_ble_eq_true rfl) dX3_put_25 (fun H locs hP hD hS => ?_)
    have hP : va_P K.1 vwCl (tw K h a (hput (hset T 0 L (nI x)) 1 ((T 1 0) + (1 : Int32)))) H := hP
    have hD : va_D A (tw K h a (hput (hset T 0 L (nI x)) 1 ((T 1 0) + (1 : Int32)))) := hD
    have eS0 : (hput (hset T 0 L (nI x)) 1 ((T 1 0) + (1 : Int32))) = if L < 120 then tPut T L x else T := by first | exact (if_pos (by omega)).symm | exact (if_neg (by omega)).symm
    rw [eS0] at hP hD
    exact hend _ _ _ _ _ _ () hP hD hS (Nat.le_of_ble_eq_true rfl) (Nat.le_of_ble_eq_true rfl) trivial dX3_put_28

abbrev rm_X3_empty : Room := { frames := 0, cells := 0, slots := 0, locals := 0 }
set_option maxHeartbeats 4000000 in
set_option maxRecDepth 100000 in
theorem c_X3_empty (l : Launch) (K : KX) (h : Nat) (a : Nat → Nat) (T : HV) (sz : Nat) : Met l yX3_empty wsX3_empty rm_X3_empty (va_Pc [.ref h] (xPre K (tw K h a T) sz)) (va_Qv (fun _u : Unit => True) (fun _u t => xPost K (va_A (tw K h a T) sz) (tw K h a (hput T 1 0)) t) (va_A (tw K h a T) sz)) 0 0 (va_A (tw K h a T) sz) := by
  refine xw_startv (cc := cX3_empty) (maxL := 1) (by decide) rfl (Nat.le_of_ble_eq_true rfl) ?_
  intro p9 e9 s9 m9 below9 meth9 c9 H locs ls A av9 Q9 hx hb hlocks hml hname hts hown hK hP hD hS hA hsz hend hl
  have hown : s9.vm.findClass RX3 = some m9.cls := hown
  have hl : lv_has ls 1 [(0, .ref h)] := hl
  have hi3 : ∀ w ∈ u_ws RX3 TX3 2, w ∈ wsX3_empty := by decide +kernel
  have lk15 := hts (.fieldLink RX3 15 "StandIns$Text" "length" "I") (by decide +kernel)
  refine lv_aload_n hx hb dX3_empty_0 rfl (lv_at hl 0 rfl) ?_
  refine lv_iconst (v := (0 : Int32)) hx hb dX3_empty_1 (by decide) ?_
  refine va_put (ci := 3) (v := .int (0 : Int32)) (ty := .int) (C := RX3) (T := TX3) (N := 2) hx hb hts hi3 tyX3 tyX3_ok nmX3 hown hK hP hD hS 0 rfl rfl 1 (by decide) lk15 (fun _ h9 => h9) rfl (by decide +kernel) rfl rfl (Nat.le_of_ble_eq_true rfl) dX3_empty_2 (fun H locs hP hD hS => ?_)
  have hP : va_P K.1 vwCl (tw K h a (hput T 1 (0 : Int32))) H := hP
  have hD : va_D A (tw K h a (hput T 1 (0 : Int32))) := hD
  have eS0 : (hput T 1 (0 : Int32)) = hput T 1 0 := by first | rfl | (simp; done) | omega
  rw [eS0] at hP hD
  exact hend _ _ _ _ _ _ () hP hD hS (Nat.le_of_ble_eq_true rfl) (Nat.le_of_ble_eq_true rfl) trivial dX3_empty_5

abbrev rm_X3_digitsBehind : Room := { frames := 0, cells := 0, slots := 0, locals := 0 }
set_option maxHeartbeats 4000000 in
set_option maxRecDepth 100000 in
theorem c_X3_digitsBehind (l : Launch) (K : KX) (x : Nat) (hx : x < 256) : Met l yX3_digitsBehind wsX3_digitsBehind rm_X3_digitsBehind (va_Pc [.int (nI x)] (xRead K ([]))) (vp_Si (fun r9 => r9 = nI (dgB x))) 0 0 (fun _ => False) := by
  refine xr_starti (cc := cX3_digitsBehind) (maxL := 1) (by decide) rfl (Nat.le_of_ble_eq_true rfl) ?_
  intro p9 e9 s9 m9 below9 meth9 c9 H ls av9 Q9 hx hb hlocks hml hts hown hK hP hend hl
  have hown : s9.vm.findClass RX3 = some m9.cls := hown
  have hl : lv_has ls 1 [(0, .int (nI x))] := hl
  refine lv_iload_n hx hb dX3_digitsBehind_0 rfl (lv_at hl 0 rfl) ?_
  by_cases e1_97 : x = 97
  · rw [show nI x = (97 : Int32) from (rfl : nI x = nI x).trans (congrArg nI e1_97)]
    refine lv_lookup (off := 53) (tgt := 54) hx hb dX3_digitsBehind_1 (by decide) (by decide) (by decide) ?_
    refine lv_iconst (v := (2 : Int32)) hx hb dX3_digitsBehind_54 (by decide) ?_
    exact hend _ _ _ (by first | (rw [show dgB x = 0 by simp [dgB, e1_97]]; rfl) | (rw [show dgB x = 1 by simp [dgB, e1_97]]; rfl) | (rw [show dgB x = 2 by simp [dgB, e1_97]]; rfl) | (rw [show dgB x = 3 by simp [dgB, e1_97]]; rfl)) dX3_digitsBehind_55
  by_cases e1_100 : x = 100
  · rw [show nI x = (100 : Int32) from (rfl : nI x = nI x).trans (congrArg nI e1_100)]
    refine lv_lookup (off := 51) (tgt := 52) hx hb dX3_digitsBehind_1 (by decide) (by decide) (by decide) ?_
    refine lv_iconst (v := (1 : Int32)) hx hb dX3_digitsBehind_52 (by decide) ?_
    exact hend _ _ _ (by first | (rw [show dgB x = 0 by simp [dgB, e1_100]]; rfl) | (rw [show dgB x = 1 by simp [dgB, e1_100]]; rfl) | (rw [show dgB x = 2 by simp [dgB, e1_100]]; rfl) | (rw [show dgB x = 3 by simp [dgB, e1_100]]; rfl)) dX3_digitsBehind_53
  by_cases e1_102 : x = 102
  · rw [show nI x = (102 : Int32) from (rfl : nI x = nI x).trans (congrArg nI e1_102)]
    refine lv_lookup (off := 53) (tgt := 54) hx hb dX3_digitsBehind_1 (by decide) (by decide) (by decide) ?_
    refine lv_iconst (v := (2 : Int32)) hx hb dX3_digitsBehind_54 (by decide) ?_
    exact hend _ _ _ (by first | (rw [show dgB x = 0 by simp [dgB, e1_102]]; rfl) | (rw [show dgB x = 1 by simp [dgB, e1_102]]; rfl) | (rw [show dgB x = 2 by simp [dgB, e1_102]]; rfl) | (rw [show dgB x = 3 by simp [dgB, e1_102]]; rfl)) dX3_digitsBehind_55
  by_cases e1_114 : x = 114
  · rw [show nI x = (114 : Int32) from (rfl : nI x = nI x).trans (congrArg nI e1_114)]
    refine lv_lookup (off := 51) (tgt := 52) hx hb dX3_digitsBehind_1 (by decide) (by decide) (by decide) ?_
    refine lv_iconst (v := (1 : Int32)) hx hb dX3_digitsBehind_52 (by decide) ?_
    exact hend _ _ _ (by first | (rw [show dgB x = 0 by simp [dgB, e1_114]]; rfl) | (rw [show dgB x = 1 by simp [dgB, e1_114]]; rfl) | (rw [show dgB x = 2 by simp [dgB, e1_114]]; rfl) | (rw [show dgB x = 3 by simp [dgB, e1_114]]; rfl)) dX3_digitsBehind_53
  by_cases e1_121 : x = 121
  · rw [show nI x = (121 : Int32) from (rfl : nI x = nI x).trans (congrArg nI e1_121)]
    refine lv_lookup (off := 55) (tgt := 56) hx hb dX3_digitsBehind_1 (by decide) (by decide) (by decide) ?_
    refine lv_iconst (v := (3 : Int32)) hx hb dX3_digitsBehind_56 (by decide) ?_
    exact hend _ _ _ (by first | (rw [show dgB x = 0 by simp [dgB, e1_121]]; rfl) | (rw [show dgB x = 1 by simp [dgB, e1_121]]; rfl) | (rw [show dgB x = 2 by simp [dgB, e1_121]]; rfl) | (rw [show dgB x = 3 by simp [dgB, e1_121]]; rfl)) dX3_digitsBehind_57
  have ne1_97 : ¬ nI x = (97 : Int32) := fun z => e1_97 ((nn_eq rfl (rfl : (97 : Int32) = nI 97) (by omega) (by decide)).mp z)
  have ne1_100 : ¬ nI x = (100 : Int32) := fun z => e1_100 ((nn_eq rfl (rfl : (100 : Int32) = nI 100) (by omega) (by decide)).mp z)
  have ne1_102 : ¬ nI x = (102 : Int32) := fun z => e1_102 ((nn_eq rfl (rfl : (102 : Int32) = nI 102) (by omega) (by decide)).mp z)
  have ne1_114 : ¬ nI x = (114 : Int32) := fun z => e1_114 ((nn_eq rfl (rfl : (114 : Int32) = nI 114) (by omega) (by decide)).mp z)
  have ne1_121 : ¬ nI x = (121 : Int32) := fun z => e1_121 ((nn_eq rfl (rfl : (121 : Int32) = nI 121) (by omega) (by decide)).mp z)
  refine lv_lookup (off := 57) (tgt := 58) hx hb dX3_digitsBehind_1 (by decide) (by show Op.lookupswitch.offset [(97, 53), (100, 51), (102, 53), (114, 51), (121, 55)] 57 _ = _; rw [lv_osw (a := 97) ne1_97 (by decide), lv_osw (a := 100) ne1_100 (by decide), lv_osw (a := 102) ne1_102 (by decide), lv_osw (a := 114) ne1_114 (by decide), lv_osw (a := 121) ne1_121 (by decide)]; rfl) (by decide) ?_
  refine lv_iconst (v := (0 : Int32)) hx hb dX3_digitsBehind_58 (by decide) ?_
  exact hend _ _ _ (by first | (rw [show dgB x = 0 by simp [dgB, e1_97, e1_100, e1_102, e1_114, e1_121]]; rfl) | (rw [show dgB x = 1 by simp [dgB, e1_97, e1_100, e1_102, e1_114, e1_121]]; rfl) | (rw [show dgB x = 2 by simp [dgB, e1_97, e1_100, e1_102, e1_114, e1_121]]; rfl) | (rw [show dgB x = 3 by simp [dgB, e1_97, e1_100, e1_102, e1_114, e1_121]]; rfl)) dX3_digitsBehind_59

abbrev rm_X3_isCommand : Room := { frames := 1, cells := 0, slots := 0, locals := 20 }
set_option maxHeartbeats 4000000 in
set_option maxRecDepth 100000 in
theorem c_X3_isCommand (l : Launch) (K : KX) (x : Nat) (hx : x < 256) : Met l yX3_isCommand wsX3_isCommand rm_X3_isCommand (va_Pc [.int (nI x)] (xRead K ([]))) (vp_Si (fun r9 => r9 = bI (isC x))) 0 0 (fun _ => False) := by
  refine xr_startz (cc := cX3_isCommand) (maxL := 1) (ret := .boolean) (by decide) rfl (Nat.le_of_ble_eq_true rfl) ?_
  intro p9 e9 s9 m9 below9 meth9 c9 H ls av9 Q9 hx hb hlocks hml hts hown hK hP hend hl
  have hown : s9.vm.findClass RX3 = some m9.cls := hown
  have hl : lv_has ls 1 [(0, .int (nI x))] := hl
  have hdg := dgB_le x
  refine lv_iload_n hx hb dX3_isCommand_0 rfl (lv_at hl 0 rfl) ?_
  refine lv_bipush (v := (112 : Int32)) hx hb dX3_isCommand_1 (by decide) ?_
  refine xn_icmp_eq (tgt := 19) hx hb x 112 rfl rfl (by omega) (by decide) dX3_isCommand_3 (by decide) (fun c_3 => ?_) (fun c_3 => ?_)
  · skip
    refine lv_iconst (v := (1 : Int32)) hx hb dX3_isCommand_19 (by decide) ?_
    refine lv_goto (tgt := 24) hx hb dX3_isCommand_20 (by decide) ?_
    exact hend _ _ _ (by decide) (by first | exact (bI_t (show x = 112 ∨ x = 103 ∨ 0 < dgB x by omega)).symm | exact (bI_f (show ¬ (x = 112 ∨ x = 103 ∨ 0 < dgB x) by omega)).symm) dX3_isCommand_24
  · skip
    refine lv_iload_n hx hb dX3_isCommand_6 rfl (lv_at hl 0 rfl) ?_
    refine lv_bipush (v := (103 : Int32)) hx hb dX3_isCommand_7 (by decide) ?_
    refine xn_icmp_eq (tgt := 19) hx hb x 103 rfl rfl (by omega) (by decide) dX3_isCommand_9 (by decide) (fun c_9 => ?_) (fun c_9 => ?_)
    · skip
      refine lv_iconst (v := (1 : Int32)) hx hb dX3_isCommand_19 (by decide) ?_
      refine lv_goto (tgt := 24) hx hb dX3_isCommand_20 (by decide) ?_
      exact hend _ _ _ (by decide) (by first | exact (bI_t (show x = 112 ∨ x = 103 ∨ 0 < dgB x by omega)).symm | exact (bI_f (show ¬ (x = 112 ∨ x = 103 ∨ 0 < dgB x) by omega)).symm) dX3_isCommand_24
    · skip
      refine lv_iload_n hx hb dX3_isCommand_12 rfl (lv_at hl 0 rfl) ?_
      have hPc : va_P K.1 vwCl ([]) H := hP
      refine xr_S (As := [.int (nI x)]) (rest := []) ⟨hx, hb, hml, hown, hts⟩ (c_X3_digitsBehind l K x (by omega)) (va_cwS 1 hts gX3_isCommand_X3_digitsBehind rfl rfl rfl (by decide +kernel) ⟨Nat.le_of_ble_eq_true rfl, Nat.le_of_ble_eq_true rfl⟩) hK hPc rfl hl.1 rfl (Nat.le_of_ble_eq_true rfl) (Nat.le_of_ble_eq_true rfl) (Nat.le_of_ble_eq_true rfl) dX3_isCommand_13 ?_
      refine xn_if_le (tgt := 23) hx hb (dgB x) rfl (by omega) dX3_isCommand_16 (by decide) (fun c_16 => ?_) (fun c_16 => ?_)
      · skip
        refine lv_iconst (v := (0 : Int32)) hx hb dX3_isCommand_23 (by decide) ?_
        exact hend _ _ _ (by decide) (by first | exact (bI_t (show x = 112 ∨ x = 103 ∨ 0 < dgB x by omega)).symm | exact (bI_f (show ¬ (x = 112 ∨ x = 103 ∨ 0 < dgB x) by omega)).symm) dX3_isCommand_24
      · skip
        refine lv_iconst (v := (1 : Int32)) hx hb dX3_isCommand_19 (by decide) ?_
        refine lv_goto (tgt := 24) hx hb dX3_isCommand_20 (by decide) ?_
        exact hend _ _ _ (by decide) (by first | exact (bI_t (show x = 112 ∨ x = 103 ∨ 0 < dgB x by omega)).symm | exact (bI_f (show ¬ (x = 112 ∨ x = 103 ∨ 0 < dgB x) by omega)).symm) dX3_isCommand_24

abbrev rm_X3_leastDigit : Room := { frames := 0, cells := 0, slots := 0, locals := 0 }
set_option maxHeartbeats 4000000 in
set_option maxRecDepth 100000 in
theorem c_X3_leastDigit (l : Launch) (K : KX) (x : Nat) (hx : x < 256) (i : Nat) (hi : i < 2147483648) : Met l yX3_leastDigit wsX3_leastDigit rm_X3_leastDigit (va_Pc [.int (nI x), .int (nI i)] (xRead K ([]))) (vp_Si (fun r9 => r9 = nI (ldD x i))) 0 0 (fun _ => False) := by
  refine xr_startz (cc := cX3_leastDigit) (maxL := 3) (ret := .char) (by decide) rfl (Nat.le_of_ble_eq_true rfl) ?_
  intro p9 e9 s9 m9 below9 meth9 c9 H ls av9 Q9 hx hb hlocks hml hts hown hK hP hend hl
  have hown : s9.vm.findClass RX3 = some m9.cls := hown
  have hl : lv_has ls 3 [(0, .int (nI x)), (1, .int (nI i))] := hl
  refine lv_iload_n hx hb dX3_leastDigit_0 rfl (lv_at hl 0 rfl) ?_
  refine lv_bipush (v := (114 : Int32)) hx hb dX3_leastDigit_1 (by decide) ?_
  refine xn_icmp_eq (tgt := 23) hx hb x 114 rfl rfl (by omega) (by decide) dX3_leastDigit_3 (by decide) (fun c_3 => ?_) (fun c_3 => ?_)
  · skip
    refine lv_iconst (v := (1 : Int32)) hx hb dX3_leastDigit_23 (by decide) ?_
    refine lv_goto (tgt := 28) hx hb dX3_leastDigit_24 (by decide) ?_
    refine lv_istore_n (lv' := [(2, .int (1 : Int32)), (0, .int (nI x)), (1, .int (nI i))]) hx hb dX3_leastDigit_28 rfl hl (by decide) rfl (fun ls hl => ?_)
    refine lv_iload_n hx hb dX3_leastDigit_29 rfl (lv_at hl 0 rfl) ?_
    refine lv_if_eq (tgt := 38) hx hb dX3_leastDigit_30 (by decide) (fun c_30 => ?_) (fun c_30 => ?_)
    · exact absurd c_30 (by decide)
    refine lv_bipush (v := (49 : Int32)) hx hb dX3_leastDigit_33 (by decide) ?_
    refine lv_goto (tgt := 40) hx hb dX3_leastDigit_35 (by decide) ?_
    exact hend _ _ _ (by decide) (by first | (rw [show ldD x i = 49 from if_pos (by omega)]; rfl) | (rw [show ldD x i = 48 from if_neg (by omega)]; rfl)) dX3_leastDigit_40
  · skip
    refine lv_iload_n hx hb dX3_leastDigit_6 rfl (lv_at hl 0 rfl) ?_
    refine lv_bipush (v := (100 : Int32)) hx hb dX3_leastDigit_7 (by decide) ?_
    refine xn_icmp_eq (tgt := 23) hx hb x 100 rfl rfl (by omega) (by decide) dX3_leastDigit_9 (by decide) (fun c_9 => ?_) (fun c_9 => ?_)
    · skip
      refine lv_iconst (v := (1 : Int32)) hx hb dX3_leastDigit_23 (by decide) ?_
      refine lv_goto (tgt := 28) hx hb dX3_leastDigit_24 (by decide) ?_
      refine lv_istore_n (lv' := [(2, .int (1 : Int32)), (0, .int (nI x)), (1, .int (nI i))]) hx hb dX3_leastDigit_28 rfl hl (by decide) rfl (fun ls hl => ?_)
      refine lv_iload_n hx hb dX3_leastDigit_29 rfl (lv_at hl 0 rfl) ?_
      refine lv_if_eq (tgt := 38) hx hb dX3_leastDigit_30 (by decide) (fun c_30 => ?_) (fun c_30 => ?_)
      · exact absurd c_30 (by decide)
      refine lv_bipush (v := (49 : Int32)) hx hb dX3_leastDigit_33 (by decide) ?_
      refine lv_goto (tgt := 40) hx hb dX3_leastDigit_35 (by decide) ?_
      exact hend _ _ _ (by decide) (by first | (rw [show ldD x i = 49 from if_pos (by omega)]; rfl) | (rw [show ldD x i = 48 from if_neg (by omega)]; rfl)) dX3_leastDigit_40
    · skip
      refine lv_iload_n hx hb dX3_leastDigit_12 rfl (lv_at hl 0 rfl) ?_
      refine lv_bipush (v := (97 : Int32)) hx hb dX3_leastDigit_13 (by decide) ?_
      refine xn_icmp_ne (tgt := 27) hx hb x 97 rfl rfl (by omega) (by decide) dX3_leastDigit_15 (by decide) (fun c_15 => ?_) (fun c_15 => ?_)
      · skip
        refine lv_iconst (v := (0 : Int32)) hx hb dX3_leastDigit_27 (by decide) ?_
        refine lv_istore_n (lv' := [(2, .int (0 : Int32)), (0, .int (nI x)), (1, .int (nI i))]) hx hb dX3_leastDigit_28 rfl hl (by decide) rfl (fun ls hl => ?_)
        refine lv_iload_n hx hb dX3_leastDigit_29 rfl (lv_at hl 0 rfl) ?_
        refine lv_if_eq (tgt := 38) hx hb dX3_leastDigit_30 (by decide) (fun c_30 => ?_) (fun c_30 => ?_)
        rotate_left
        · exact absurd (by decide) c_30
        refine lv_bipush (v := (48 : Int32)) hx hb dX3_leastDigit_38 (by decide) ?_
        exact hend _ _ _ (by decide) (by first | (rw [show ldD x i = 49 from if_pos (by omega)]; rfl) | (rw [show ldD x i = 48 from if_neg (by omega)]; rfl)) dX3_leastDigit_40
      · skip
        refine lv_iload_n hx hb dX3_leastDigit_18 rfl (lv_at hl 1 rfl) ?_
        refine lv_iconst (v := (2 : Int32)) hx hb dX3_leastDigit_19 (by decide) ?_
        refine xn_icmp_ne (tgt := 27) hx hb i 2 rfl rfl (by omega) (by decide) dX3_leastDigit_20 (by decide) (fun c_20 => ?_) (fun c_20 => ?_)
        · skip
          refine lv_iconst (v := (0 : Int32)) hx hb dX3_leastDigit_27 (by decide) ?_
          refine lv_istore_n (lv' := [(2, .int (0 : Int32)), (0, .int (nI x)), (1, .int (nI i))]) hx hb dX3_leastDigit_28 rfl hl (by decide) rfl (fun ls hl => ?_)
          refine lv_iload_n hx hb dX3_leastDigit_29 rfl (lv_at hl 0 rfl) ?_
          refine lv_if_eq (tgt := 38) hx hb dX3_leastDigit_30 (by decide) (fun c_30 => ?_) (fun c_30 => ?_)
          rotate_left
          · exact absurd (by decide) c_30
          refine lv_bipush (v := (48 : Int32)) hx hb dX3_leastDigit_38 (by decide) ?_
          exact hend _ _ _ (by decide) (by first | (rw [show ldD x i = 49 from if_pos (by omega)]; rfl) | (rw [show ldD x i = 48 from if_neg (by omega)]; rfl)) dX3_leastDigit_40
        · skip
          refine lv_iconst (v := (1 : Int32)) hx hb dX3_leastDigit_23 (by decide) ?_
          refine lv_goto (tgt := 28) hx hb dX3_leastDigit_24 (by decide) ?_
          refine lv_istore_n (lv' := [(2, .int (1 : Int32)), (0, .int (nI x)), (1, .int (nI i))]) hx hb dX3_leastDigit_28 rfl hl (by decide) rfl (fun ls hl => ?_)
          refine lv_iload_n hx hb dX3_leastDigit_29 rfl (lv_at hl 0 rfl) ?_
          refine lv_if_eq (tgt := 38) hx hb dX3_leastDigit_30 (by decide) (fun c_30 => ?_) (fun c_30 => ?_)
          · exact absurd c_30 (by decide)
          refine lv_bipush (v := (49 : Int32)) hx hb dX3_leastDigit_33 (by decide) ?_
          refine lv_goto (tgt := 40) hx hb dX3_leastDigit_35 (by decide) ?_
          exact hend _ _ _ (by decide) (by first | (rw [show ldD x i = 49 from if_pos (by omega)]; rfl) | (rw [show ldD x i = 48 from if_neg (by omega)]; rfl)) dX3_leastDigit_40

abbrev rm_X3_greatestDigit : Room := { frames := 0, cells := 0, slots := 0, locals := 0 }
set_option maxHeartbeats 4000000 in
set_option maxRecDepth 100000 in
theorem c_X3_greatestDigit (l : Launch) (K : KX) (x : Nat) (hx : x < 256) (i : Nat) (hi : i < 2147483648) : Met l yX3_greatestDigit wsX3_greatestDigit rm_X3_greatestDigit (va_Pc [.int (nI x), .int (nI i)] (xRead K ([]))) (vp_Si (fun r9 => r9 = nI (gdD x i))) 0 0 (fun _ => False) := by
  refine xr_startz (cc := cX3_greatestDigit) (maxL := 3) (ret := .char) (by decide) rfl (Nat.le_of_ble_eq_true rfl) ?_
  intro p9 e9 s9 m9 below9 meth9 c9 H ls av9 Q9 hx hb hlocks hml hts hown hK hP hend hl
  have hown : s9.vm.findClass RX3 = some m9.cls := hown
  have hl : lv_has ls 3 [(0, .int (nI x)), (1, .int (nI i))] := hl
  refine lv_iload_n hx hb dX3_greatestDigit_0 rfl (lv_at hl 0 rfl) ?_
  refine lv_bipush (v := (121 : Int32)) hx hb dX3_greatestDigit_1 (by decide) ?_
  refine xn_icmp_ne (tgt := 11) hx hb x 121 rfl rfl (by omega) (by decide) dX3_greatestDigit_3 (by decide) (fun c_3 => ?_) (fun c_3 => ?_)
  · skip
    refine lv_iload_n hx hb dX3_greatestDigit_11 rfl (lv_at hl 0 rfl) ?_
    refine lv_bipush (v := (102 : Int32)) hx hb dX3_greatestDigit_12 (by decide) ?_
    refine xn_icmp_ne (tgt := 26) hx hb x 102 rfl rfl (by omega) (by decide) dX3_greatestDigit_14 (by decide) (fun c_14 => ?_) (fun c_14 => ?_)
    · skip
      refine lv_iconst (v := (0 : Int32)) hx hb dX3_greatestDigit_26 (by decide) ?_
      refine lv_istore_n (lv' := [(2, .int (0 : Int32)), (0, .int (nI x)), (1, .int (nI i))]) hx hb dX3_greatestDigit_27 rfl hl (by decide) rfl (fun ls hl => ?_)
      refine lv_iload_n hx hb dX3_greatestDigit_28 rfl (lv_at hl 0 rfl) ?_
      refine lv_if_eq (tgt := 37) hx hb dX3_greatestDigit_29 (by decide) (fun c_29 => ?_) (fun c_29 => ?_)
      rotate_left
      · exact absurd (by decide) c_29
      refine lv_bipush (v := (57 : Int32)) hx hb dX3_greatestDigit_37 (by decide) ?_
      exact hend _ _ _ (by decide) (by first | (rw [show gdD x i = 53 from if_pos (by omega)]; rfl) | (rw [show gdD x i = 57 from if_neg (by omega)]; rfl)) dX3_greatestDigit_39
    · skip
      refine lv_iload_n hx hb dX3_greatestDigit_17 rfl (lv_at hl 1 rfl) ?_
      refine lv_iconst (v := (1 : Int32)) hx hb dX3_greatestDigit_18 (by decide) ?_
      refine xn_icmp_ne (tgt := 26) hx hb i 1 rfl rfl (by omega) (by decide) dX3_greatestDigit_19 (by decide) (fun c_19 => ?_) (fun c_19 => ?_)
      · skip
        refine lv_iconst (v := (0 : Int32)) hx hb dX3_greatestDigit_26 (by decide) ?_
        refine lv_istore_n (lv' := [(2, .int (0 : Int32)), (0, .int (nI x)), (1, .int (nI i))]) hx hb dX3_greatestDigit_27 rfl hl (by decide) rfl (fun ls hl => ?_)
        refine lv_iload_n hx hb dX3_greatestDigit_28 rfl (lv_at hl 0 rfl) ?_
        refine lv_if_eq (tgt := 37) hx hb dX3_greatestDigit_29 (by decide) (fun c_29 => ?_) (fun c_29 => ?_)
        rotate_left
        · exact absurd (by decide) c_29
        refine lv_bipush (v := (57 : Int32)) hx hb dX3_greatestDigit_37 (by decide) ?_
        exact hend _ _ _ (by decide) (by first | (rw [show gdD x i = 53 from if_pos (by omega)]; rfl) | (rw [show gdD x i = 57 from if_neg (by omega)]; rfl)) dX3_greatestDigit_39
      · skip
        refine lv_iconst (v := (1 : Int32)) hx hb dX3_greatestDigit_22 (by decide) ?_
        refine lv_goto (tgt := 27) hx hb dX3_greatestDigit_23 (by decide) ?_
        refine lv_istore_n (lv' := [(2, .int (1 : Int32)), (0, .int (nI x)), (1, .int (nI i))]) hx hb dX3_greatestDigit_27 rfl hl (by decide) rfl (fun ls hl => ?_)
        refine lv_iload_n hx hb dX3_greatestDigit_28 rfl (lv_at hl 0 rfl) ?_
        refine lv_if_eq (tgt := 37) hx hb dX3_greatestDigit_29 (by decide) (fun c_29 => ?_) (fun c_29 => ?_)
        · exact absurd c_29 (by decide)
        refine lv_bipush (v := (53 : Int32)) hx hb dX3_greatestDigit_32 (by decide) ?_
        refine lv_goto (tgt := 39) hx hb dX3_greatestDigit_34 (by decide) ?_
        exact hend _ _ _ (by decide) (by first | (rw [show gdD x i = 53 from if_pos (by omega)]; rfl) | (rw [show gdD x i = 57 from if_neg (by omega)]; rfl)) dX3_greatestDigit_39
  · skip
    refine lv_iload_n hx hb dX3_greatestDigit_6 rfl (lv_at hl 1 rfl) ?_
    refine lv_iconst (v := (2 : Int32)) hx hb dX3_greatestDigit_7 (by decide) ?_
    refine xn_icmp_eq (tgt := 22) hx hb i 2 rfl rfl (by omega) (by decide) dX3_greatestDigit_8 (by decide) (fun c_8 => ?_) (fun c_8 => ?_)
    · skip
      refine lv_iconst (v := (1 : Int32)) hx hb dX3_greatestDigit_22 (by decide) ?_
      refine lv_goto (tgt := 27) hx hb dX3_greatestDigit_23 (by decide) ?_
      refine lv_istore_n (lv' := [(2, .int (1 : Int32)), (0, .int (nI x)), (1, .int (nI i))]) hx hb dX3_greatestDigit_27 rfl hl (by decide) rfl (fun ls hl => ?_)
      refine lv_iload_n hx hb dX3_greatestDigit_28 rfl (lv_at hl 0 rfl) ?_
      refine lv_if_eq (tgt := 37) hx hb dX3_greatestDigit_29 (by decide) (fun c_29 => ?_) (fun c_29 => ?_)
      · exact absurd c_29 (by decide)
      refine lv_bipush (v := (53 : Int32)) hx hb dX3_greatestDigit_32 (by decide) ?_
      refine lv_goto (tgt := 39) hx hb dX3_greatestDigit_34 (by decide) ?_
      exact hend _ _ _ (by decide) (by first | (rw [show gdD x i = 53 from if_pos (by omega)]; rfl) | (rw [show gdD x i = 57 from if_neg (by omega)]; rfl)) dX3_greatestDigit_39
    · skip
      refine lv_iload_n hx hb dX3_greatestDigit_11 rfl (lv_at hl 0 rfl) ?_
      refine lv_bipush (v := (102 : Int32)) hx hb dX3_greatestDigit_12 (by decide) ?_
      refine xn_icmp_ne (tgt := 26) hx hb x 102 rfl rfl (by omega) (by decide) dX3_greatestDigit_14 (by decide) (fun c_14 => ?_) (fun c_14 => ?_)
      · skip
        refine lv_iconst (v := (0 : Int32)) hx hb dX3_greatestDigit_26 (by decide) ?_
        refine lv_istore_n (lv' := [(2, .int (0 : Int32)), (0, .int (nI x)), (1, .int (nI i))]) hx hb dX3_greatestDigit_27 rfl hl (by decide) rfl (fun ls hl => ?_)
        refine lv_iload_n hx hb dX3_greatestDigit_28 rfl (lv_at hl 0 rfl) ?_
        refine lv_if_eq (tgt := 37) hx hb dX3_greatestDigit_29 (by decide) (fun c_29 => ?_) (fun c_29 => ?_)
        rotate_left
        · exact absurd (by decide) c_29
        refine lv_bipush (v := (57 : Int32)) hx hb dX3_greatestDigit_37 (by decide) ?_
        exact hend _ _ _ (by decide) (by first | (rw [show gdD x i = 53 from if_pos (by omega)]; rfl) | (rw [show gdD x i = 57 from if_neg (by omega)]; rfl)) dX3_greatestDigit_39
      · skip
        refine lv_iload_n hx hb dX3_greatestDigit_17 rfl (lv_at hl 1 rfl) ?_
        refine lv_iconst (v := (1 : Int32)) hx hb dX3_greatestDigit_18 (by decide) ?_
        refine xn_icmp_ne (tgt := 26) hx hb i 1 rfl rfl (by omega) (by decide) dX3_greatestDigit_19 (by decide) (fun c_19 => ?_) (fun c_19 => ?_)
        · skip
          refine lv_iconst (v := (0 : Int32)) hx hb dX3_greatestDigit_26 (by decide) ?_
          refine lv_istore_n (lv' := [(2, .int (0 : Int32)), (0, .int (nI x)), (1, .int (nI i))]) hx hb dX3_greatestDigit_27 rfl hl (by decide) rfl (fun ls hl => ?_)
          refine lv_iload_n hx hb dX3_greatestDigit_28 rfl (lv_at hl 0 rfl) ?_
          refine lv_if_eq (tgt := 37) hx hb dX3_greatestDigit_29 (by decide) (fun c_29 => ?_) (fun c_29 => ?_)
          rotate_left
          · exact absurd (by decide) c_29
          refine lv_bipush (v := (57 : Int32)) hx hb dX3_greatestDigit_37 (by decide) ?_
          exact hend _ _ _ (by decide) (by first | (rw [show gdD x i = 53 from if_pos (by omega)]; rfl) | (rw [show gdD x i = 57 from if_neg (by omega)]; rfl)) dX3_greatestDigit_39
        · skip
          refine lv_iconst (v := (1 : Int32)) hx hb dX3_greatestDigit_22 (by decide) ?_
          refine lv_goto (tgt := 27) hx hb dX3_greatestDigit_23 (by decide) ?_
          refine lv_istore_n (lv' := [(2, .int (1 : Int32)), (0, .int (nI x)), (1, .int (nI i))]) hx hb dX3_greatestDigit_27 rfl hl (by decide) rfl (fun ls hl => ?_)
          refine lv_iload_n hx hb dX3_greatestDigit_28 rfl (lv_at hl 0 rfl) ?_
          refine lv_if_eq (tgt := 37) hx hb dX3_greatestDigit_29 (by decide) (fun c_29 => ?_) (fun c_29 => ?_)
          · exact absurd c_29 (by decide)
          refine lv_bipush (v := (53 : Int32)) hx hb dX3_greatestDigit_32 (by decide) ?_
          refine lv_goto (tgt := 39) hx hb dX3_greatestDigit_34 (by decide) ?_
          exact hend _ _ _ (by decide) (by first | (rw [show gdD x i = 53 from if_pos (by omega)]; rfl) | (rw [show gdD x i = 57 from if_neg (by omega)]; rfl)) dX3_greatestDigit_39

abbrev rm_X3_errorBehind : Room := { frames := 1, cells := 0, slots := 0, locals := 22 }
set_option maxHeartbeats 4000000 in
set_option maxRecDepth 100000 in
theorem c_X3_errorBehind (l : Launch) (K : KX) (h : Nat) (a : Nat → Nat) (T : HV) (p : Nat) (L : Nat) (hL0 : T 1 0 = nI L) (hL0b : L ≤ 120) (ch : Nat → Nat) (htx : ∀ i, i < L → T 0 i = nI (ch i) ∧ ch i < 256) (hp : p < L) : Met l yX3_errorBehind wsX3_errorBehind rm_X3_errorBehind (va_Pc [.ref h, .int (nI p)] (xRead K (tw K h a T))) (vp_Si (fun r9 => r9 = ebF ch L p 1 (dgB (ch p)))) 0 0 (fun _ => False) := by
  refine xr_starti (cc := cX3_errorBehind) (maxL := 4) (by decide) rfl (Nat.le_of_ble_eq_true rfl) ?_
  intro p9 e9 s9 m9 below9 meth9 c9 H ls av9 Q9 hx hb hlocks hml hts hown hK hP hend hl
  have hown : s9.vm.findClass RX3 = some m9.cls := hown
  have hl : lv_has ls 4 [(0, .ref h), (1, .int (nI p))] := hl
  have hi3 : ∀ w ∈ u_ws RX3 TX3 2, w ∈ wsX3_errorBehind := by decide +kernel
  have lk9 := hts (.fieldLink RX3 9 "StandIns$Text" "signs" "[C") (by decide +kernel)
  have lk15 := hts (.fieldLink RX3 15 "StandIns$Text" "length" "I") (by decide +kernel)
  have hdg := dgB_le (ch p)
  have hcp := (htx p hp).2
  refine lv_iconst (v := (1 : Int32)) hx hb dX3_errorBehind_0 (by decide) ?_
  refine lv_istore_n (lv' := [(2, .int (1 : Int32)), (0, .ref h), (1, .int (nI p))]) hx hb dX3_errorBehind_1 rfl hl (by decide) rfl (fun ls hl => ?_)
  have lp2 : ∀ (n9 : Nat) (i : Nat) (ls : Array Slot), 4 - i < n9 → (i ≤ dgB (ch p) + 1) → (1 ≤ i) → (ebF ch L p 1 (dgB (ch p)) = ebF ch L p i (dgB (ch p) + 1 - i)) → lv_has ls 4 [(0, .ref h), (1, .int (nI p)), (2, .int (nI i))] → W p9 l e9 rm_X3_errorBehind s9 m9 av9 below9 meth9 c9 H [] 0 0 Q9 (F0 m9 2 ls []) := by
    intro n9
    induction n9 with
    | zero => intro i ls hmu hi hi1 hF hl; exact absurd hmu (Nat.not_lt_zero _)
    | succ n9 ih2 =>
      intro i ls hmu hi hi1 hF hl
      have hl1 := ldD_le (ch p) i
      have hg1 := gdD_le (ch p) i
      refine lv_iload_n hx hb dX3_errorBehind_2 rfl (lv_at hl 2 rfl) ?_
      refine lv_aload_n hx hb dX3_errorBehind_3 rfl (lv_at hl 0 rfl) ?_
      refine va_get (ci := 3) (v := .ref (a 0)) (C := RX3) (T := TX3) (N := 2) hx hb hts hi3 hown hK hP 0 rfl rfl 0 (by decide) lk9 (fun _ h9 => h9) rfl dX3_errorBehind_4 ?_
      refine lv_iload_n hx hb dX3_errorBehind_7 rfl (lv_at hl 1 rfl) ?_
      refine xc_ld hx hb hK hP 1 (f := T 0) rfl p rfl (by omega) (by decide) dX3_errorBehind_8 ?_
      rw [show T 0 p = nI (ch p) from (htx p (by omega)).1]
      have hPc := P_sub (ws' := []) hP [] rfl
      refine xr_S (As := [.int (nI (ch p))]) (rest := [.int (nI i)]) ⟨hx, hb, hml, hown, hts⟩ (c_X3_digitsBehind l K (ch p) (by omega)) (va_cwS 1 hts gX3_errorBehind_X3_digitsBehind rfl rfl rfl (by decide +kernel) ⟨Nat.le_of_ble_eq_true rfl, Nat.le_of_ble_eq_true rfl⟩) hK hPc rfl hl.1 rfl (Nat.le_of_ble_eq_true rfl) (Nat.le_of_ble_eq_true rfl) (Nat.le_of_ble_eq_true rfl) dX3_errorBehind_9 ?_
      refine xn_icmp_gt (tgt := 77) hx hb i (dgB (ch p)) rfl rfl (by omega) (by omega) dX3_errorBehind_12 (by decide) (fun c_12 => ?_) (fun c_12 => ?_)
      · skip
        refine lv_iconst (v := (-1 : Int32)) hx hb dX3_errorBehind_77 (by decide) ?_
        exact hend _ _ _ (by rw [hF, ebF_e (by omega)]) dX3_errorBehind_78
      · skip
        refine lv_iload_n hx hb dX3_errorBehind_15 rfl (lv_at hl 1 rfl) ?_
        refine lv_iload_n hx hb dX3_errorBehind_16 rfl (lv_at hl 2 rfl) ?_
        refine lv_iadd hx hb dX3_errorBehind_17 ?_
        refine lv_aload_n hx hb dX3_errorBehind_18 rfl (lv_at hl 0 rfl) ?_
        refine va_get (ci := 3) (v := .int (T 1 0)) (C := RX3) (T := TX3) (N := 2) hx hb hts hi3 hown hK hP 0 rfl rfl 1 (by decide) lk15 (fun _ h9 => h9) rfl dX3_errorBehind_19 ?_
        refine xn_icmp_lt (tgt := 30) hx hb (p + i) L (nn_add rfl rfl) hL0 (by omega) (by omega) dX3_errorBehind_22 (by decide) (fun c_22 => ?_) (fun c_22 => ?_)
        · skip
          have hci := (htx (p + i) (by omega)).2
          refine lv_aload_n hx hb dX3_errorBehind_30 rfl (lv_at hl 0 rfl) ?_
          refine va_get (ci := 3) (v := .ref (a 0)) (C := RX3) (T := TX3) (N := 2) hx hb hts hi3 hown hK hP 0 rfl rfl 0 (by decide) lk9 (fun _ h9 => h9) rfl dX3_errorBehind_31 ?_
          refine lv_iload_n hx hb dX3_errorBehind_34 rfl (lv_at hl 1 rfl) ?_
          refine lv_iload_n hx hb dX3_errorBehind_35 rfl (lv_at hl 2 rfl) ?_
          refine lv_iadd hx hb dX3_errorBehind_36 ?_
          refine xc_ld hx hb hK hP 1 (f := T 0) rfl (p + i) (nn_add rfl rfl) (by omega) (by decide) dX3_errorBehind_37 ?_
          rw [show T 0 (p + i) = nI (ch (p + i)) from (htx (p + i) (by omega)).1]
          refine lv_istore_n (lv' := [(3, .int (nI (ch (p + i)))), (0, .ref h), (1, .int (nI p)), (2, .int (nI i))]) hx hb dX3_errorBehind_38 rfl hl (by decide) rfl (fun ls hl => ?_)
          refine lv_iload_n hx hb dX3_errorBehind_39 rfl (lv_at hl 0 rfl) ?_
          refine lv_aload_n hx hb dX3_errorBehind_40 rfl (lv_at hl 1 rfl) ?_
          refine va_get (ci := 3) (v := .ref (a 0)) (C := RX3) (T := TX3) (N := 2) hx hb hts hi3 hown hK hP 0 rfl rfl 0 (by decide) lk9 (fun _ h9 => h9) rfl dX3_errorBehind_41 ?_
          refine lv_iload_n hx hb dX3_errorBehind_44 rfl (lv_at hl 2 rfl) ?_
          refine xc_ld hx hb hK hP 1 (f := T 0) rfl p rfl (by omega) (by decide) dX3_errorBehind_45 ?_
          rw [show T 0 p = nI (ch p) from (htx p (by omega)).1]
          refine lv_iload_n hx hb dX3_errorBehind_46 rfl (lv_at hl 3 rfl) ?_
          have hPc := P_sub (ws' := []) hP [] rfl
          refine xr_S (As := [.int (nI (ch p)), .int (nI i)]) (rest := [.int (nI (ch (p + i)))]) ⟨hx, hb, hml, hown, hts⟩ (c_X3_leastDigit l K (ch p) (by omega) i (by omega)) (va_cwS 2 hts gX3_errorBehind_X3_leastDigit rfl rfl rfl (by decide +kernel) ⟨Nat.le_of_ble_eq_true rfl, Nat.le_of_ble_eq_true rfl⟩) hK hPc rfl hl.1 rfl (Nat.le_of_ble_eq_true rfl) (Nat.le_of_ble_eq_true rfl) (Nat.le_of_ble_eq_true rfl) dX3_errorBehind_47 ?_
          refine xn_icmp_lt (tgt := 67) hx hb (ch (p + i)) (ldD (ch p) i) rfl rfl (by omega) (by omega) dX3_errorBehind_50 (by decide) (fun c_50 => ?_) (fun c_50 => ?_)
          · skip
            refine lv_iload_n hx hb dX3_errorBehind_67 rfl (lv_at hl 2 rfl) ?_
            refine lv_iload_n hx hb dX3_errorBehind_68 rfl (lv_at hl 3 rfl) ?_
            refine lv_iadd hx hb dX3_errorBehind_69 ?_
            exact hend _ _ _ (by rw [hF, ebF_s (by omega), if_neg (by omega), if_pos (by omega), nI_add]) dX3_errorBehind_70
          · skip
            refine lv_iload_n hx hb dX3_errorBehind_53 rfl (lv_at hl 0 rfl) ?_
            refine lv_aload_n hx hb dX3_errorBehind_54 rfl (lv_at hl 1 rfl) ?_
            refine va_get (ci := 3) (v := .ref (a 0)) (C := RX3) (T := TX3) (N := 2) hx hb hts hi3 hown hK hP 0 rfl rfl 0 (by decide) lk9 (fun _ h9 => h9) rfl dX3_errorBehind_55 ?_
            refine lv_iload_n hx hb dX3_errorBehind_58 rfl (lv_at hl 2 rfl) ?_
            refine xc_ld hx hb hK hP 1 (f := T 0) rfl p rfl (by omega) (by decide) dX3_errorBehind_59 ?_
            rw [show T 0 p = nI (ch p) from (htx p (by omega)).1]
            refine lv_iload_n hx hb dX3_errorBehind_60 rfl (lv_at hl 3 rfl) ?_
            have hPc := P_sub (ws' := []) hP [] rfl
            refine xr_S (As := [.int (nI (ch p)), .int (nI i)]) (rest := [.int (nI (ch (p + i)))]) ⟨hx, hb, hml, hown, hts⟩ (c_X3_greatestDigit l K (ch p) (by omega) i (by omega)) (va_cwS 2 hts gX3_errorBehind_X3_greatestDigit rfl rfl rfl (by decide +kernel) ⟨Nat.le_of_ble_eq_true rfl, Nat.le_of_ble_eq_true rfl⟩) hK hPc rfl hl.1 rfl (Nat.le_of_ble_eq_true rfl) (Nat.le_of_ble_eq_true rfl) (Nat.le_of_ble_eq_true rfl) dX3_errorBehind_61 ?_
            refine xn_icmp_le (tgt := 71) hx hb (ch (p + i)) (gdD (ch p) i) rfl rfl (by omega) (by omega) dX3_errorBehind_64 (by decide) (fun c_64 => ?_) (fun c_64 => ?_)
            · skip
              refine lv_iinc (v := nI (i + 1)) (lv' := [(2, .int (nI (i + 1))), (3, .int (nI (ch (p + i)))), (0, .ref h), (1, .int (nI p))]) hx hb dX3_errorBehind_71 hl (k := 3) rfl (nI_1 _) (by decide) rfl (fun ls hl => ?_)
              refine lv_goto (tgt := 2) hx hb dX3_errorBehind_74 (by decide) ?_
              exact ih2 (i + 1) _ (by omega) (by first | omega | assumption | first | rfl | (simp [c_12, c_22, c_50, c_64]; done) | omega) (by first | omega | assumption | first | rfl | (simp [c_12, c_22, c_50, c_64]; done) | omega) (by rw [hF, ebF_s (by omega), if_neg (by omega), if_neg (by omega)]) (lv_cons (lv_at hl 2 rfl) (lv_cons (lv_at hl 3 rfl) (lv_cons (lv_at hl 0 rfl) (lv_nil hl))))
            · skip
              refine lv_iload_n hx hb dX3_errorBehind_67 rfl (lv_at hl 2 rfl) ?_
              refine lv_iload_n hx hb dX3_errorBehind_68 rfl (lv_at hl 3 rfl) ?_
              refine lv_iadd hx hb dX3_errorBehind_69 ?_
              exact hend _ _ _ (by rw [hF, ebF_s (by omega), if_neg (by omega), if_pos (by omega), nI_add]) dX3_errorBehind_70
        · skip
          refine lv_aload_n hx hb dX3_errorBehind_25 rfl (lv_at hl 0 rfl) ?_
          refine va_get (ci := 3) (v := .int (T 1 0)) (C := RX3) (T := TX3) (N := 2) hx hb hts hi3 hown hK hP 0 rfl rfl 1 (by decide) lk15 (fun _ h9 => h9) rfl dX3_errorBehind_26 ?_
          exact hend _ _ _ (by rw [hF, ebF_s (by omega), if_pos (by omega), hL0]) dX3_errorBehind_29
  exact lp2 _ 1 _ (Nat.lt_succ_self _) (by first | omega | assumption | first | rfl | (simp; done) | omega) (by first | omega | assumption | first | rfl | (simp; done) | omega) (by rfl) (lv_cons (lv_at hl 1 rfl) (lv_cons (lv_at hl 2 rfl) (lv_cons (lv_is (lv_at hl 0 rfl) (show (1 : Int32) = nI 1 by first | rfl | (simp; done) | omega)) (lv_nil hl))))

abbrev rm_X3_firstError : Room := { frames := 2, cells := 0, slots := 0, locals := 45 }
set_option maxHeartbeats 4000000 in
set_option maxRecDepth 100000 in
theorem c_X3_firstError (l : Launch) (K : KX) (h : Nat) (a : Nat → Nat) (T : HV) (L : Nat) (hL0 : T 1 0 = nI L) (hL0b : L ≤ 120) (ch : Nat → Nat) (htx : ∀ i, i < L → T 0 i = nI (ch i) ∧ ch i < 256) : Met l yX3_firstError wsX3_firstError rm_X3_firstError (va_Pc [.ref h] (xRead K (tw K h a T))) (vp_Si (fun r9 => r9 = ferF ch L)) 0 0 (fun _ => False) := by
  refine xr_starti (cc := cX3_firstError) (maxL := 3) (by decide) rfl (Nat.le_of_ble_eq_true rfl) ?_
  intro p9 e9 s9 m9 below9 meth9 c9 H ls av9 Q9 hx hb hlocks hml hts hown hK hP hend hl
  have hown : s9.vm.findClass RX3 = some m9.cls := hown
  have hl : lv_has ls 3 [(0, .ref h)] := hl
  have hi3 : ∀ w ∈ u_ws RX3 TX3 2, w ∈ wsX3_firstError := by decide +kernel
  have lk15 := hts (.fieldLink RX3 15 "StandIns$Text" "length" "I") (by decide +kernel)
  have lk9 := hts (.fieldLink RX3 9 "StandIns$Text" "signs" "[C") (by decide +kernel)
  refine lv_aload_n hx hb dX3_firstError_0 rfl (lv_at hl 0 rfl) ?_
  refine va_get (ci := 3) (v := .int (T 1 0)) (C := RX3) (T := TX3) (N := 2) hx hb hts hi3 hown hK hP 0 rfl rfl 1 (by decide) lk15 (fun _ h9 => h9) rfl dX3_firstError_1 ?_
  refine xn_if_eq (tgt := 18) hx hb L hL0 (by omega) dX3_firstError_4 (by decide) (fun c_4 => ?_) (fun c_4 => ?_)
  · skip
    refine lv_iconst (v := (0 : Int32)) hx hb dX3_firstError_18 (by decide) ?_
    exact hend _ _ _ (by unfold ferF; rw [if_pos (by first | exact Or.inl c_4 | exact Or.inr c_15)]) dX3_firstError_19
  · skip
    have hc0 := (htx 0 (by omega)).2
    refine lv_aload_n hx hb dX3_firstError_7 rfl (lv_at hl 0 rfl) ?_
    refine va_get (ci := 3) (v := .ref (a 0)) (C := RX3) (T := TX3) (N := 2) hx hb hts hi3 hown hK hP 0 rfl rfl 0 (by decide) lk9 (fun _ h9 => h9) rfl dX3_firstError_8 ?_
    refine lv_iconst (v := (0 : Int32)) hx hb dX3_firstError_11 (by decide) ?_
    refine xc_ld hx hb hK hP 1 (f := T 0) rfl 0 rfl (by omega) (by decide) dX3_firstError_12 ?_
    rw [show T 0 0 = nI (ch 0) from (htx 0 (by omega)).1]
    refine lv_bipush (v := (72 : Int32)) hx hb dX3_firstError_13 (by decide) ?_
    refine xn_icmp_eq (tgt := 20) hx hb (ch 0) 72 rfl rfl (by omega) (by decide) dX3_firstError_15 (by decide) (fun c_15 => ?_) (fun c_15 => ?_)
    · skip
      refine lv_iconst (v := (1 : Int32)) hx hb dX3_firstError_20 (by decide) ?_
      refine lv_istore_n (lv' := [(1, .int (1 : Int32)), (0, .ref h)]) hx hb dX3_firstError_21 rfl hl (by decide) rfl (fun ls hl => ?_)
      have lp22 : ∀ (n9 : Nat) (p : Nat) (n : Nat) (ls : Array Slot), L - p < n9 → (p ≤ 1000) → (L ≤ p + n) → (ferF ch L = feF ch L n p) → lv_has ls 3 [(0, .ref h), (1, .int (nI p))] → W p9 l e9 rm_X3_firstError s9 m9 av9 below9 meth9 c9 H [] 0 0 Q9 (F0 m9 22 ls []) := by
        intro n9
        induction n9 with
        | zero => intro p n ls hmu hp9 hn9 hF hl; exact absurd hmu (Nat.not_lt_zero _)
        | succ n9 ih22 =>
          intro p n ls hmu hp9 hn9 hF hl
          refine lv_iload_n hx hb dX3_firstError_22 rfl (lv_at hl 1 rfl) ?_
          refine lv_aload_n hx hb dX3_firstError_23 rfl (lv_at hl 0 rfl) ?_
          refine va_get (ci := 3) (v := .int (T 1 0)) (C := RX3) (T := TX3) (N := 2) hx hb hts hi3 hown hK hP 0 rfl rfl 1 (by decide) lk15 (fun _ h9 => h9) rfl dX3_firstError_24 ?_
          refine xn_icmp_ge (tgt := 74) hx hb p L rfl hL0 (by omega) (by omega) dX3_firstError_27 (by decide) (fun c_27 => ?_) (fun c_27 => ?_)
          · skip
            refine lv_iconst (v := (-1 : Int32)) hx hb dX3_firstError_74 (by decide) ?_
            exact hend _ _ _ (by rw [hF, feF_e (by omega)]) dX3_firstError_75
          · skip
            have hcp := (htx p (by omega)).2
            have hdg := dgB_le (ch p)
            refine lv_aload_n hx hb dX3_firstError_30 rfl (lv_at hl 0 rfl) ?_
            refine va_get (ci := 3) (v := .ref (a 0)) (C := RX3) (T := TX3) (N := 2) hx hb hts hi3 hown hK hP 0 rfl rfl 0 (by decide) lk9 (fun _ h9 => h9) rfl dX3_firstError_31 ?_
            refine lv_iload_n hx hb dX3_firstError_34 rfl (lv_at hl 1 rfl) ?_
            refine xc_ld hx hb hK hP 1 (f := T 0) rfl p rfl (by omega) (by decide) dX3_firstError_35 ?_
            rw [show T 0 p = nI (ch p) from (htx p (by omega)).1]
            have hPc := P_sub (ws' := []) hP [] rfl
            refine xr_S (As := [.int (nI (ch p))]) (rest := []) ⟨hx, hb, hml, hown, hts⟩ (c_X3_isCommand l K (ch p) (by omega)) (va_cwS 1 hts gX3_firstError_X3_isCommand rfl rfl rfl (by decide +kernel) ⟨Nat.le_of_ble_eq_true rfl, Nat.le_of_ble_eq_true rfl⟩) hK hPc rfl hl.1 rfl (Nat.le_of_ble_eq_true rfl) (Nat.le_of_ble_eq_true rfl) (Nat.le_of_ble_eq_true rfl) dX3_firstError_36 ?_
            refine xb_if_ne (tgt := 44) hx hb dX3_firstError_39 (by decide) (fun c_39 => ?_) (fun c_39 => ?_)
            · skip
              refine lv_aload_n hx hb dX3_firstError_44 rfl (lv_at hl 0 rfl) ?_
              refine lv_iload_n hx hb dX3_firstError_45 rfl (lv_at hl 1 rfl) ?_
              have hPc : va_P K.1 vwCl (tw K h a T) H := hP
              refine xr_V (As := [.int (nI p)]) (rest := []) ⟨hx, hb, hml, hown, hts⟩ (c_X3_errorBehind l K h a T p L hL0 (by omega) ch (by first | assumption | omega) (by first | assumption | omega)) (cwV 1 hts gX3_firstError_X3_errorBehind rfl rfl rfl (by decide +kernel) ⟨Nat.le_of_ble_eq_true rfl, Nat.le_of_ble_eq_true rfl⟩) hK hPc 0 3 rfl rfl rfl rfl hl.1 rfl (Nat.le_of_ble_eq_true rfl) (Nat.le_of_ble_eq_true rfl) (Nat.le_of_ble_eq_true rfl) dX3_firstError_46 ?_
              refine lv_istore_n (lv' := [(2, .int (ebF ch L p 1 (dgB (ch p)))), (0, .ref h), (1, .int (nI p))]) hx hb dX3_firstError_49 rfl hl (by decide) rfl (fun ls hl => ?_)
              refine lv_iload_n hx hb dX3_firstError_50 rfl (lv_at hl 0 rfl) ?_
              refine lv_iconst (v := (-1 : Int32)) hx hb dX3_firstError_51 (by decide) ?_
              refine lv_icmp_eq (tgt := 57) hx hb dX3_firstError_52 (by decide) (fun c_52 => ?_) (fun c_52 => ?_)
              · skip
                refine lv_iload_n hx hb dX3_firstError_57 rfl (lv_at hl 2 rfl) ?_
                refine lv_iconst (v := (1 : Int32)) hx hb dX3_firstError_58 (by decide) ?_
                refine lv_aload_n hx hb dX3_firstError_59 rfl (lv_at hl 1 rfl) ?_
                refine va_get (ci := 3) (v := .ref (a 0)) (C := RX3) (T := TX3) (N := 2) hx hb hts hi3 hown hK hP 0 rfl rfl 0 (by decide) lk9 (fun _ h9 => h9) rfl dX3_firstError_60 ?_
                refine lv_iload_n hx hb dX3_firstError_63 rfl (lv_at hl 2 rfl) ?_
                refine xc_ld hx hb hK hP 1 (f := T 0) rfl p rfl (by omega) (by decide) dX3_firstError_64 ?_
                rw [show T 0 p = nI (ch p) from (htx p (by omega)).1]
                have hPc := P_sub (ws' := []) hP [] rfl
                refine xr_S (As := [.int (nI (ch p))]) (rest := [.int (1 : Int32), .int (nI p)]) ⟨hx, hb, hml, hown, hts⟩ (c_X3_digitsBehind l K (ch p) (by omega)) (va_cwS 1 hts gX3_firstError_X3_digitsBehind rfl rfl rfl (by decide +kernel) ⟨Nat.le_of_ble_eq_true rfl, Nat.le_of_ble_eq_true rfl⟩) hK hPc rfl hl.1 rfl (Nat.le_of_ble_eq_true rfl) (Nat.le_of_ble_eq_true rfl) (Nat.le_of_ble_eq_true rfl) dX3_firstError_65 ?_
                refine lv_iadd hx hb dX3_firstError_68 ?_
                refine lv_iadd hx hb dX3_firstError_69 ?_
                refine lv_istore_n (lv' := [(1, .int ((nI p) + ((1 : Int32) + (nI (dgB (ch p)))))), (2, .int (ebF ch L p 1 (dgB (ch p)))), (0, .ref h)]) hx hb dX3_firstError_70 rfl hl (by decide) rfl (fun ls hl => ?_)
                refine lv_goto (tgt := 22) hx hb dX3_firstError_71 (by decide) ?_
                exact ih22 (p + (1 + dgB (ch p))) (n - 1) _ (by omega) (by first | omega | assumption | first | rfl | (simp [c_4, c_15, c_27, c_39, c_52]; done) | omega) (by first | omega | assumption | first | rfl | (simp [c_4, c_15, c_27, c_39, c_52]; done) | omega) (by rw [hF, feF_s (show p < L by omega) (show L ≤ p + n by omega), if_neg (by exact fun z => z c_39), if_pos c_52]) (lv_cons (lv_at hl 2 rfl) (lv_cons (lv_is (lv_at hl 0 rfl) (show (nI p) + ((1 : Int32) + (nI (dgB (ch p)))) = nI (p + (1 + dgB (ch p))) by exact nn_add rfl (nn_add rfl rfl))) (lv_nil hl)))
              · skip
                refine lv_iload_n hx hb dX3_firstError_55 rfl (lv_at hl 0 rfl) ?_
                exact hend _ _ _ (by rw [hF, feF_s (show p < L by omega) (show L ≤ p + n by omega), if_neg (by exact fun z => z c_39), if_neg c_52]) dX3_firstError_56
            · skip
              refine lv_iload_n hx hb dX3_firstError_42 rfl (lv_at hl 1 rfl) ?_
              exact hend _ _ _ (by rw [hF, feF_s (show p < L by omega) (show L ≤ p + n by omega), if_pos c_39]) dX3_firstError_43
      exact lp22 _ 1 120 _ (Nat.lt_succ_self _) (by first | omega | assumption | first | rfl | (simp [c_4, c_15]; done) | omega) (by first | omega | assumption | first | rfl | (simp [c_4, c_15]; done) | omega) (by unfold ferF; rw [if_neg]; intro z; rcases z with z | z; exact absurd z c_4; exact absurd c_15 z) (lv_cons (lv_at hl 1 rfl) (lv_cons (lv_is (lv_at hl 0 rfl) (show (1 : Int32) = nI 1 by rfl)) (lv_nil hl)))
    · skip
      refine lv_iconst (v := (0 : Int32)) hx hb dX3_firstError_18 (by decide) ?_
      exact hend _ _ _ (by unfold ferF; rw [if_pos (by first | exact Or.inl c_4 | exact Or.inr c_15)]) dX3_firstError_19

abbrev rm_X3_digit : Room := { frames := 0, cells := 0, slots := 0, locals := 0 }
set_option maxHeartbeats 4000000 in
set_option maxRecDepth 100000 in
theorem c_X3_digit (l : Launch) (K : KX) (h : Nat) (a : Nat → Nat) (T : HV) (p : Nat) (L : Nat) (hL0 : T 1 0 = nI L) (hL0b : L ≤ 120) (ch : Nat → Nat) (htx : ∀ i, i < L → T 0 i = nI (ch i) ∧ ch i < 256) (hp : p < L) (h48 : 48 ≤ ch p) : Met l yX3_digit wsX3_digit rm_X3_digit (va_Pc [.ref h, .int (nI p)] (xRead K (tw K h a T))) (vp_Si (fun r9 => r9 = nI (ch p - 48))) 0 0 (fun _ => False) := by
  refine xr_starti (cc := cX3_digit) (maxL := 2) (by decide) rfl (Nat.le_of_ble_eq_true rfl) ?_
  intro p9 e9 s9 m9 below9 meth9 c9 H ls av9 Q9 hx hb hlocks hml hts hown hK hP hend hl
  have hown : s9.vm.findClass RX3 = some m9.cls := hown
  have hl : lv_has ls 2 [(0, .ref h), (1, .int (nI p))] := hl
  have hi3 : ∀ w ∈ u_ws RX3 TX3 2, w ∈ wsX3_digit := by decide +kernel
  have lk15 := hts (.fieldLink RX3 15 "StandIns$Text" "length" "I") (by decide +kernel)
  have lk9 := hts (.fieldLink RX3 9 "StandIns$Text" "signs" "[C") (by decide +kernel)
  refine lv_iload_n hx hb dX3_digit_0 rfl (lv_at hl 1 rfl) ?_
  refine xn_if_lt (tgt := 24) hx hb p rfl (by omega) dX3_digit_1 (by decide) ?_
  refine lv_iload_n hx hb dX3_digit_4 rfl (lv_at hl 1 rfl) ?_
  refine lv_aload_n hx hb dX3_digit_5 rfl (lv_at hl 0 rfl) ?_
  refine va_get (ci := 3) (v := .int (T 1 0)) (C := RX3) (T := TX3) (N := 2) hx hb hts hi3 hown hK hP 0 rfl rfl 1 (by decide) lk15 (fun _ h9 => h9) rfl dX3_digit_6 ?_
  refine xn_icmp_ge (tgt := 24) hx hb p L rfl hL0 (by omega) (by omega) dX3_digit_9 (by decide) (fun c_9 => ?_) (fun c_9 => ?_)
  · omega
  · skip
    have hcp := (htx p hp).2
    refine lv_aload_n hx hb dX3_digit_12 rfl (lv_at hl 0 rfl) ?_
    refine va_get (ci := 3) (v := .ref (a 0)) (C := RX3) (T := TX3) (N := 2) hx hb hts hi3 hown hK hP 0 rfl rfl 0 (by decide) lk9 (fun _ h9 => h9) rfl dX3_digit_13 ?_
    refine lv_iload_n hx hb dX3_digit_16 rfl (lv_at hl 1 rfl) ?_
    refine xc_ld hx hb hK hP 1 (f := T 0) rfl p rfl (by omega) (by decide) dX3_digit_17 ?_
    rw [show T 0 p = nI (ch p) from (htx p (by omega)).1]
    refine lv_bipush (v := (48 : Int32)) hx hb dX3_digit_18 (by decide) ?_
    refine lv_isub hx hb dX3_digit_20 ?_
    refine lv_goto (tgt := 25) hx hb dX3_digit_21 (by decide) ?_
    exact hend _ _ _ (by exact nn_sub rfl rfl h48) dX3_digit_25

abbrev rm_X3_isDone : Room := { frames := 5, cells := 0, slots := 0, locals := 117 }
set_option maxHeartbeats 4000000 in
set_option maxRecDepth 100000 in
theorem c_X3_isDone (l : Launch) (K : KX) (h : Nat) (a : Nat → Nat) (T : HV) (p : Nat) (o : Nat) (oa : Nat → Nat) (S : HV) (c : Nat) (b : Nat → Nat) (C : HV) (L : Nat) (hL0 : T 1 0 = nI L) (hL0b : L ≤ 120) (ch : Nat → Nat) (htx : ∀ i, i < L → T 0 i = nI (ch i) ∧ ch i < 256) (hp : p < L) (hok : okC ch L p) (R : Nat) (hR0 : S 10 0 = nI R) (hR0b : R ≤ 6) (P : Nat) (hP0 : S 11 0 = nI P) (hP0b : P ≤ 10) (h16 : S 16 0 = 0) (sz : Nat) : Met l yX3_isDone wsX3_isDone rm_X3_isDone (va_Pc [.ref h, .int (nI p), .ref o, .ref c] (xPre K (tw K h a T ++ hw K o oa S ++ cw K c b C) sz)) (va_Qi (fun (r9 : Int32) (u9 : HV) => r9 = bI (dnB (S, R, P) (ch p) (ch (p + 1) - 48) (ch (p + 2) - 48) = true)) (fun u9 t => xPost K (va_A (tw K h a T ++ hw K o oa S ++ cw K c b C) sz) (tw K h a T ++ hw K o oa (dnT (S, R, P) (ch p) (ch (p + 1) - 48) (ch (p + 2) - 48) (ch (p + 3) - 48)).1 ++ cw K c b u9) t) (va_A (tw K h a T ++ hw K o oa S ++ cw K c b C) sz)) 0 0 (va_A (tw K h a T ++ hw K o oa S ++ cw K c b C) sz) := by
  refine xw_startz (cc := cX3_isDone) (maxL := 4) (ret := .boolean) (by decide) rfl (Nat.le_of_ble_eq_true rfl) ?_
  intro p9 e9 s9 m9 below9 meth9 c9 H locs ls A av9 Q9 hx hb hlocks hml hname hts hown hK hP hD hS hA hsz hend hl
  have hown : s9.vm.findClass RX3 = some m9.cls := hown
  have hl : lv_has ls 4 [(0, .ref h), (1, .int (nI p)), (2, .ref o), (3, .ref c)] := hl
  have hi3 : ∀ w ∈ u_ws RX3 TX3 2, w ∈ wsX3_isDone := by decide +kernel
  have lk9 := hts (.fieldLink RX3 9 "StandIns$Text" "signs" "[C") (by decide +kernel)
  have hcp := (htx p hp).2
  have hR6 : (S 10 0 < 6 ∧ S 16 0 = 0) ↔ R < 6 := ⟨fun z => (nn_lt hR0 (rfl : (6 : Int32) = nI 6) (by omega) (by decide)).mp z.1, fun z => ⟨(nn_lt hR0 (rfl : (6 : Int32) = nI 6) (by omega) (by decide)).mpr z, h16⟩⟩
  have hP10 : (S 11 0 < 10) ↔ P < 10 := nn_lt hP0 (rfl : (10 : Int32) = nI 10) (by omega) (by decide)
  have hz : S 16 0 = 0 ∨ S 16 0 = 1 := Or.inl h16
  refine lv_aload_n hx hb dX3_isDone_0 rfl (lv_at hl 0 rfl) ?_
  refine va_get (ci := 3) (v := .ref (a 0)) (C := RX3) (T := TX3) (N := 2) hx hb hts hi3 hown hK hP 0 rfl rfl 0 (by decide) lk9 (fun _ h9 => h9) rfl dX3_isDone_1 ?_
  refine lv_iload_n hx hb dX3_isDone_4 rfl (lv_at hl 1 rfl) ?_
  refine xc_ld hx hb hK hP 1 (f := T 0) rfl p rfl (by omega) (by decide) dX3_isDone_5 ?_
  rw [show T 0 p = nI (ch p) from (htx p (by omega)).1]
  by_cases e6_97 : ch p = 97
  · rw [show nI (ch p) = (97 : Int32) from (rfl : nI (ch p) = nI (ch p)).trans (congrArg nI e6_97)]
    refine lv_lookup (off := 120) (tgt := 126) hx hb dX3_isDone_6 (by decide) (by decide) (by decide) ?_
    have hj1 := hok.2 1 (by omega) (by rw [e6_97]; decide)
    have hj2 := hok.2 2 (by omega) (by rw [e6_97]; decide)
    have hlj1 := ldD_le (ch p) 1
    have hlj2 := ldD_le (ch p) 2
    have hgj1 := gdD_le (ch p) 1
    have hgj2 := gdD_le (ch p) 2
    refine lv_aload_n hx hb dX3_isDone_126 rfl (lv_at hl 2 rfl) ?_
    refine lv_aload_n hx hb dX3_isDone_127 rfl (lv_at hl 0 rfl) ?_
    refine lv_iload_n hx hb dX3_isDone_128 rfl (lv_at hl 1 rfl) ?_
    refine lv_iconst (v := (1 : Int32)) hx hb dX3_isDone_129 (by decide) ?_
    refine lv_iadd hx hb dX3_isDone_130 ?_
    rw [show (nI p) + (1 : Int32) = nI (p + 1) from (nn_add rfl rfl)]
    have hPc := P_sub (ws' := tw K h a T) hP [0, 1] rfl
    refine xr_V (As := [.int (nI (p + 1))]) (rest := [.ref o]) ⟨hx, hb, hml, hown, hts⟩ (c_X3_digit l K h a T (p + 1) L hL0 (by omega) ch (by first | assumption | omega) (by first | assumption | omega) (by first | assumption | omega)) (cwV 1 hts gX3_isDone_X3_digit rfl rfl rfl (by decide +kernel) ⟨Nat.le_of_ble_eq_true rfl, Nat.le_of_ble_eq_true rfl⟩) hK hPc 0 3 rfl rfl rfl rfl hl.1 rfl (Nat.le_of_ble_eq_true rfl) (Nat.le_of_ble_eq_true rfl) (Nat.le_of_ble_eq_true rfl) dX3_isDone_131 ?_
    refine lv_aload_n hx hb dX3_isDone_134 rfl (lv_at hl 0 rfl) ?_
    refine lv_iload_n hx hb dX3_isDone_135 rfl (lv_at hl 1 rfl) ?_
    refine lv_iconst (v := (2 : Int32)) hx hb dX3_isDone_136 (by decide) ?_
    refine lv_iadd hx hb dX3_isDone_137 ?_
    rw [show (nI p) + (2 : Int32) = nI (p + 2) from (nn_add rfl rfl)]
    have hPc := P_sub (ws' := tw K h a T) hP [0, 1] rfl
    refine xr_V (As := [.int (nI (p + 2))]) (rest := [.int (nI (ch (p + 1) - 48)), .ref o]) ⟨hx, hb, hml, hown, hts⟩ (c_X3_digit l K h a T (p + 2) L hL0 (by omega) ch (by first | assumption | omega) (by first | assumption | omega) (by first | assumption | omega)) (cwV 1 hts gX3_isDone_X3_digit rfl rfl rfl (by decide +kernel) ⟨Nat.le_of_ble_eq_true rfl, Nat.le_of_ble_eq_true rfl⟩) hK hPc 0 3 rfl rfl rfl rfl hl.1 rfl (Nat.le_of_ble_eq_true rfl) (Nat.le_of_ble_eq_true rfl) (Nat.le_of_ble_eq_true rfl) dX3_isDone_138 ?_
    refine xw_Vi (As := [.int (nI (ch (p + 1) - 48)), .int (nI (ch (p + 2) - 48))]) (rest := []) (wc := hw K o oa S) (wr := (List.filterMap (fun i => (tw K h a T ++ hw K o oa S ++ cw K c b C : va_W)[i]?) ([0, 1, 13, 14, 15, 16] : List Nat))) ⟨hx, hb, hml, hown, hts⟩ (c_X2_sendAway l K o oa S (ch (p + 1) - 48) (ch (p + 2) - 48) (by first | assumption | omega) (by first | assumption | omega) P hP0 (by omega) H.size) (cwV 2 hts gX3_isDone_X2_sendAway rfl rfl rfl (by decide +kernel) ⟨Nat.le_of_ble_eq_true rfl, Nat.le_of_ble_eq_true rfl⟩) hK hP hD hS hA [2, 3, 4, 5, 6, 7, 8, 9, 10, 11, 12] [0, 1, 13, 14, 15, 16] [0, 1, 6, 7, 8, 9, 10, 11, 12, 13, 14, 15, 16, 2, 3, 4, 5] rfl rfl rfl (fun _u => tw K h a T ++ hw K o oa (if (ch (p + 1) - 48) < P ∧ 1 ≤ (ch (p + 2) - 48) ∧ (ch (p + 2) - 48) ≤ 99 then hAway S (ch (p + 1) - 48) (ch (p + 2) - 48) else S) ++ cw K c b C) (fun _ => rfl) 0 2 rfl rfl rfl rfl hl.1 rfl (Nat.le_of_ble_eq_true rfl) (Nat.le_of_ble_eq_true rfl) (Nat.le_of_ble_eq_true rfl) dX3_isDone_141 (fun r141 _ H locs hq141 hP hD hS => ?_)
    have hP : va_P K.1 vwCl (tw K h a T ++ hw K o oa (if (ch (p + 1) - 48) < P ∧ 1 ≤ (ch (p + 2) - 48) ∧ (ch (p + 2) - 48) ≤ 99 then hAway S (ch (p + 1) - 48) (ch (p + 2) - 48) else S) ++ cw K c b C) H := hP
    have hD : va_D A (tw K h a T ++ hw K o oa (if (ch (p + 1) - 48) < P ∧ 1 ≤ (ch (p + 2) - 48) ∧ (ch (p + 2) - 48) ≤ 99 then hAway S (ch (p + 1) - 48) (ch (p + 2) - 48) else S) ++ cw K c b C) := hD
    subst hq141
    have eS1 : (if (ch (p + 1) - 48) < P ∧ 1 ≤ (ch (p + 2) - 48) ∧ (ch (p + 2) - 48) ≤ 99 then hAway S (ch (p + 1) - 48) (ch (p + 2) - 48) else S) = (dnT (S, R, P) (ch p) (ch (p + 1) - 48) (ch (p + 2) - 48) (ch (p + 3) - 48)).1 := by (simp [dnT, e6_97, hR6, hP10]; done)
    rw [eS1] at hP hD
    exact hend _ _ _ _ _ _ _ (bI_narrow) C hP hD hS (Nat.le_of_ble_eq_true rfl) (Nat.le_of_ble_eq_true rfl) (by (simp [dnB, bI, e6_97, hR6, hP10]; done)) dX3_isDone_144
  by_cases e6_100 : ch p = 100
  · rw [show nI (ch p) = (100 : Int32) from (rfl : nI (ch p) = nI (ch p)).trans (congrArg nI e6_100)]
    refine lv_lookup (off := 139) (tgt := 145) hx hb dX3_isDone_6 (by decide) (by decide) (by decide) ?_
    have hj1 := hok.2 1 (by omega) (by rw [e6_100]; decide)
    have hlj1 := ldD_le (ch p) 1
    have hgj1 := gdD_le (ch p) 1
    refine lv_aload_n hx hb dX3_isDone_145 rfl (lv_at hl 2 rfl) ?_
    refine lv_aload_n hx hb dX3_isDone_146 rfl (lv_at hl 0 rfl) ?_
    refine lv_iload_n hx hb dX3_isDone_147 rfl (lv_at hl 1 rfl) ?_
    refine lv_iconst (v := (1 : Int32)) hx hb dX3_isDone_148 (by decide) ?_
    refine lv_iadd hx hb dX3_isDone_149 ?_
    rw [show (nI p) + (1 : Int32) = nI (p + 1) from (nn_add rfl rfl)]
    have hPc := P_sub (ws' := tw K h a T) hP [0, 1] rfl
    refine xr_V (As := [.int (nI (p + 1))]) (rest := [.ref o]) ⟨hx, hb, hml, hown, hts⟩ (c_X3_digit l K h a T (p + 1) L hL0 (by omega) ch (by first | assumption | omega) (by first | assumption | omega) (by first | assumption | omega)) (cwV 1 hts gX3_isDone_X3_digit rfl rfl rfl (by decide +kernel) ⟨Nat.le_of_ble_eq_true rfl, Nat.le_of_ble_eq_true rfl⟩) hK hPc 0 3 rfl rfl rfl rfl hl.1 rfl (Nat.le_of_ble_eq_true rfl) (Nat.le_of_ble_eq_true rfl) (Nat.le_of_ble_eq_true rfl) dX3_isDone_150 ?_
    refine xw_Vi (As := [.int (nI (ch (p + 1) - 48))]) (rest := []) (wc := hw K o oa S) (wr := (List.filterMap (fun i => (tw K h a T ++ hw K o oa S ++ cw K c b C : va_W)[i]?) ([0, 1, 13, 14, 15, 16] : List Nat))) ⟨hx, hb, hml, hown, hts⟩ (c_X2_passDays l K o oa S (ch (p + 1) - 48) (by first | assumption | omega) H.size) (cwV 1 hts gX3_isDone_X2_passDays rfl rfl rfl (by decide +kernel) ⟨Nat.le_of_ble_eq_true rfl, Nat.le_of_ble_eq_true rfl⟩) hK hP hD hS hA [2, 3, 4, 5, 6, 7, 8, 9, 10, 11, 12] [0, 1, 13, 14, 15, 16] [0, 1, 6, 7, 8, 9, 10, 11, 12, 13, 14, 15, 16, 2, 3, 4, 5] rfl rfl rfl (fun _u => tw K h a T ++ hw K o oa (if 1 ≤ (ch (p + 1) - 48) ∧ (ch (p + 1) - 48) ≤ 99 then hPass S (ch (p + 1) - 48) else S) ++ cw K c b C) (fun _ => rfl) 0 2 rfl rfl rfl rfl hl.1 rfl (Nat.le_of_ble_eq_true rfl) (Nat.le_of_ble_eq_true rfl) (Nat.le_of_ble_eq_true rfl) dX3_isDone_153 (fun r153 _ H locs hq153 hP hD hS => ?_)
    have hP : va_P K.1 vwCl (tw K h a T ++ hw K o oa (if 1 ≤ (ch (p + 1) - 48) ∧ (ch (p + 1) - 48) ≤ 99 then hPass S (ch (p + 1) - 48) else S) ++ cw K c b C) H := hP
    have hD : va_D A (tw K h a T ++ hw K o oa (if 1 ≤ (ch (p + 1) - 48) ∧ (ch (p + 1) - 48) ≤ 99 then hPass S (ch (p + 1) - 48) else S) ++ cw K c b C) := hD
    subst hq153
    have eS1 : (if 1 ≤ (ch (p + 1) - 48) ∧ (ch (p + 1) - 48) ≤ 99 then hPass S (ch (p + 1) - 48) else S) = (dnT (S, R, P) (ch p) (ch (p + 1) - 48) (ch (p + 2) - 48) (ch (p + 3) - 48)).1 := by (simp [dnT, e6_100, hR6, hP10]; done)
    rw [eS1] at hP hD
    exact hend _ _ _ _ _ _ _ (bI_narrow) C hP hD hS (Nat.le_of_ble_eq_true rfl) (Nat.le_of_ble_eq_true rfl) (by (simp [dnB, bI, e6_100, hR6, hP10]; done)) dX3_isDone_156
  by_cases e6_102 : ch p = 102
  · rw [show nI (ch p) = (102 : Int32) from (rfl : nI (ch p) = nI (ch p)).trans (congrArg nI e6_102)]
    refine lv_lookup (off := 101) (tgt := 107) hx hb dX3_isDone_6 (by decide) (by decide) (by decide) ?_
    have hj1 := hok.2 1 (by omega) (by rw [e6_102]; decide)
    have hj2 := hok.2 2 (by omega) (by rw [e6_102]; decide)
    have hlj1 := ldD_le (ch p) 1
    have hlj2 := ldD_le (ch p) 2
    have hgj1 := gdD_le (ch p) 1
    have hgj2 := gdD_le (ch p) 2
    refine lv_aload_n hx hb dX3_isDone_107 rfl (lv_at hl 2 rfl) ?_
    refine lv_aload_n hx hb dX3_isDone_108 rfl (lv_at hl 0 rfl) ?_
    refine lv_iload_n hx hb dX3_isDone_109 rfl (lv_at hl 1 rfl) ?_
    refine lv_iconst (v := (1 : Int32)) hx hb dX3_isDone_110 (by decide) ?_
    refine lv_iadd hx hb dX3_isDone_111 ?_
    rw [show (nI p) + (1 : Int32) = nI (p + 1) from (nn_add rfl rfl)]
    have hPc := P_sub (ws' := tw K h a T) hP [0, 1] rfl
    refine xr_V (As := [.int (nI (p + 1))]) (rest := [.ref o]) ⟨hx, hb, hml, hown, hts⟩ (c_X3_digit l K h a T (p + 1) L hL0 (by omega) ch (by first | assumption | omega) (by first | assumption | omega) (by first | assumption | omega)) (cwV 1 hts gX3_isDone_X3_digit rfl rfl rfl (by decide +kernel) ⟨Nat.le_of_ble_eq_true rfl, Nat.le_of_ble_eq_true rfl⟩) hK hPc 0 3 rfl rfl rfl rfl hl.1 rfl (Nat.le_of_ble_eq_true rfl) (Nat.le_of_ble_eq_true rfl) (Nat.le_of_ble_eq_true rfl) dX3_isDone_112 ?_
    refine lv_aload_n hx hb dX3_isDone_115 rfl (lv_at hl 0 rfl) ?_
    refine lv_iload_n hx hb dX3_isDone_116 rfl (lv_at hl 1 rfl) ?_
    refine lv_iconst (v := (2 : Int32)) hx hb dX3_isDone_117 (by decide) ?_
    refine lv_iadd hx hb dX3_isDone_118 ?_
    rw [show (nI p) + (2 : Int32) = nI (p + 2) from (nn_add rfl rfl)]
    have hPc := P_sub (ws' := tw K h a T) hP [0, 1] rfl
    refine xr_V (As := [.int (nI (p + 2))]) (rest := [.int (nI (ch (p + 1) - 48)), .ref o]) ⟨hx, hb, hml, hown, hts⟩ (c_X3_digit l K h a T (p + 2) L hL0 (by omega) ch (by first | assumption | omega) (by first | assumption | omega) (by first | assumption | omega)) (cwV 1 hts gX3_isDone_X3_digit rfl rfl rfl (by decide +kernel) ⟨Nat.le_of_ble_eq_true rfl, Nat.le_of_ble_eq_true rfl⟩) hK hPc 0 3 rfl rfl rfl rfl hl.1 rfl (Nat.le_of_ble_eq_true rfl) (Nat.le_of_ble_eq_true rfl) (Nat.le_of_ble_eq_true rfl) dX3_isDone_119 ?_
    refine xw_Vi (As := [.int (nI (ch (p + 1) - 48)), .int (nI (ch (p + 2) - 48))]) (rest := []) (wc := hw K o oa S) (wr := (List.filterMap (fun i => (tw K h a T ++ hw K o oa S ++ cw K c b C : va_W)[i]?) ([0, 1, 13, 14, 15, 16] : List Nat))) ⟨hx, hb, hml, hown, hts⟩ (c_X2_putFirst l K o oa S (ch (p + 1) - 48) (ch (p + 2) - 48) (by first | assumption | omega) (by first | assumption | omega) R hR0 (by omega) P hP0 (by omega) H.size) (cwV 2 hts gX3_isDone_X2_putFirst rfl rfl rfl (by decide +kernel) ⟨Nat.le_of_ble_eq_true rfl, Nat.le_of_ble_eq_true rfl⟩) hK hP hD hS hA [2, 3, 4, 5, 6, 7, 8, 9, 10, 11, 12] [0, 1, 13, 14, 15, 16] [0, 1, 6, 7, 8, 9, 10, 11, 12, 13, 14, 15, 16, 2, 3, 4, 5] rfl rfl rfl (fun _u => tw K h a T ++ hw K o oa (if (ch (p + 2) - 48) < P ∧ (ch (p + 1) - 48) < R then hset S 1 (ch (p + 1) - 48) (nI (ch (p + 2) - 48)) else S) ++ cw K c b C) (fun _ => rfl) 0 2 rfl rfl rfl rfl hl.1 rfl (Nat.le_of_ble_eq_true rfl) (Nat.le_of_ble_eq_true rfl) (Nat.le_of_ble_eq_true rfl) dX3_isDone_122 (fun r122 _ H locs hq122 hP hD hS => ?_)
    have hP : va_P K.1 vwCl (tw K h a T ++ hw K o oa (if (ch (p + 2) - 48) < P ∧ (ch (p + 1) - 48) < R then hset S 1 (ch (p + 1) - 48) (nI (ch (p + 2) - 48)) else S) ++ cw K c b C) H := hP
    have hD : va_D A (tw K h a T ++ hw K o oa (if (ch (p + 2) - 48) < P ∧ (ch (p + 1) - 48) < R then hset S 1 (ch (p + 1) - 48) (nI (ch (p + 2) - 48)) else S) ++ cw K c b C) := hD
    subst hq122
    have eS1 : (if (ch (p + 2) - 48) < P ∧ (ch (p + 1) - 48) < R then hset S 1 (ch (p + 1) - 48) (nI (ch (p + 2) - 48)) else S) = (dnT (S, R, P) (ch p) (ch (p + 1) - 48) (ch (p + 2) - 48) (ch (p + 3) - 48)).1 := by (simp [dnT, e6_102, hR6, hP10]; done)
    rw [eS1] at hP hD
    exact hend _ _ _ _ _ _ _ (bI_narrow) C hP hD hS (Nat.le_of_ble_eq_true rfl) (Nat.le_of_ble_eq_true rfl) (by (simp [dnB, bI, e6_102, hR6, hP10]; done)) dX3_isDone_125
  by_cases e6_112 : ch p = 112
  · rw [show nI (ch p) = (112 : Int32) from (rfl : nI (ch p) = nI (ch p)).trans (congrArg nI e6_112)]
    refine lv_lookup (off := 70) (tgt := 76) hx hb dX3_isDone_6 (by decide) (by decide) (by decide) ?_
    refine lv_aload_n hx hb dX3_isDone_76 rfl (lv_at hl 2 rfl) ?_
    refine xw_Vi (As := []) (rest := []) (wc := hw K o oa S) (wr := (List.filterMap (fun i => (tw K h a T ++ hw K o oa S ++ cw K c b C : va_W)[i]?) ([0, 1, 13, 14, 15, 16] : List Nat))) ⟨hx, hb, hml, hown, hts⟩ (c_X2_putPlayer l K o oa S H.size) (cwV 0 hts gX3_isDone_X2_putPlayer rfl rfl rfl (by decide +kernel) ⟨Nat.le_of_ble_eq_true rfl, Nat.le_of_ble_eq_true rfl⟩) hK hP hD hS hA [2, 3, 4, 5, 6, 7, 8, 9, 10, 11, 12] [0, 1, 13, 14, 15, 16] [0, 1, 6, 7, 8, 9, 10, 11, 12, 13, 14, 15, 16, 2, 3, 4, 5] rfl rfl rfl (fun _u => tw K h a T ++ hw K o oa (if S 11 0 < 10 then hPutPlayer S else S) ++ cw K c b C) (fun _ => rfl) 0 2 rfl rfl rfl rfl hl.1 rfl (Nat.le_of_ble_eq_true rfl) (Nat.le_of_ble_eq_true rfl) (Nat.le_of_ble_eq_true rfl) dX3_isDone_77 (fun r77 _ H locs hq77 hP hD hS => ?_)
    have hP : va_P K.1 vwCl (tw K h a T ++ hw K o oa (if S 11 0 < 10 then hPutPlayer S else S) ++ cw K c b C) H := hP
    have hD : va_D A (tw K h a T ++ hw K o oa (if S 11 0 < 10 then hPutPlayer S else S) ++ cw K c b C) := hD
    subst hq77
    have eS1 : (if S 11 0 < 10 then hPutPlayer S else S) = (dnT (S, R, P) (ch p) (ch (p + 1) - 48) (ch (p + 2) - 48) (ch (p + 3) - 48)).1 := by (simp [dnT, e6_112, hR6, hP10]; done)
    rw [eS1] at hP hD
    exact hend _ _ _ _ _ _ _ (bI_narrow) C hP hD hS (Nat.le_of_ble_eq_true rfl) (Nat.le_of_ble_eq_true rfl) (by (simp [dnB, bI, e6_112, hR6, hP10]; done)) dX3_isDone_80
  by_cases e6_114 : ch p = 114
  · rw [show nI (ch p) = (114 : Int32) from (rfl : nI (ch p) = nI (ch p)).trans (congrArg nI e6_114)]
    refine lv_lookup (off := 58) (tgt := 64) hx hb dX3_isDone_6 (by decide) (by decide) (by decide) ?_
    have hj1 := hok.2 1 (by omega) (by rw [e6_114]; decide)
    have hlj1 := ldD_le (ch p) 1
    have hgj1 := gdD_le (ch p) 1
    refine lv_aload_n hx hb dX3_isDone_64 rfl (lv_at hl 2 rfl) ?_
    refine lv_aload_n hx hb dX3_isDone_65 rfl (lv_at hl 0 rfl) ?_
    refine lv_iload_n hx hb dX3_isDone_66 rfl (lv_at hl 1 rfl) ?_
    refine lv_iconst (v := (1 : Int32)) hx hb dX3_isDone_67 (by decide) ?_
    refine lv_iadd hx hb dX3_isDone_68 ?_
    rw [show (nI p) + (1 : Int32) = nI (p + 1) from (nn_add rfl rfl)]
    have hPc := P_sub (ws' := tw K h a T) hP [0, 1] rfl
    refine xr_V (As := [.int (nI (p + 1))]) (rest := [.ref o]) ⟨hx, hb, hml, hown, hts⟩ (c_X3_digit l K h a T (p + 1) L hL0 (by omega) ch (by first | assumption | omega) (by first | assumption | omega) (by first | assumption | omega)) (cwV 1 hts gX3_isDone_X3_digit rfl rfl rfl (by decide +kernel) ⟨Nat.le_of_ble_eq_true rfl, Nat.le_of_ble_eq_true rfl⟩) hK hPc 0 3 rfl rfl rfl rfl hl.1 rfl (Nat.le_of_ble_eq_true rfl) (Nat.le_of_ble_eq_true rfl) (Nat.le_of_ble_eq_true rfl) dX3_isDone_69 ?_
    refine xw_Vi (As := [.int (nI (ch (p + 1) - 48))]) (rest := []) (wc := hw K o oa S) (wr := (List.filterMap (fun i => (tw K h a T ++ hw K o oa S ++ cw K c b C : va_W)[i]?) ([0, 1, 13, 14, 15, 16] : List Nat))) ⟨hx, hb, hml, hown, hts⟩ (c_X2_putRole l K o oa S (nI (ch (p + 1) - 48)) R hR0 (by omega) (by first | assumption | omega) H.size) (cwV 1 hts gX3_isDone_X2_putRole rfl rfl rfl (by decide +kernel) ⟨Nat.le_of_ble_eq_true rfl, Nat.le_of_ble_eq_true rfl⟩) hK hP hD hS hA [2, 3, 4, 5, 6, 7, 8, 9, 10, 11, 12] [0, 1, 13, 14, 15, 16] [0, 1, 6, 7, 8, 9, 10, 11, 12, 13, 14, 15, 16, 2, 3, 4, 5] rfl rfl rfl (fun _u => tw K h a T ++ hw K o oa (if S 10 0 < 6 ∧ S 16 0 = 0 then hPutRole S R (nI (ch (p + 1) - 48)) else S) ++ cw K c b C) (fun _ => rfl) 0 2 rfl rfl rfl rfl hl.1 rfl (Nat.le_of_ble_eq_true rfl) (Nat.le_of_ble_eq_true rfl) (Nat.le_of_ble_eq_true rfl) dX3_isDone_72 (fun r72 _ H locs hq72 hP hD hS => ?_)
    have hP : va_P K.1 vwCl (tw K h a T ++ hw K o oa (if S 10 0 < 6 ∧ S 16 0 = 0 then hPutRole S R (nI (ch (p + 1) - 48)) else S) ++ cw K c b C) H := hP
    have hD : va_D A (tw K h a T ++ hw K o oa (if S 10 0 < 6 ∧ S 16 0 = 0 then hPutRole S R (nI (ch (p + 1) - 48)) else S) ++ cw K c b C) := hD
    subst hq72
    have eS1 : (if S 10 0 < 6 ∧ S 16 0 = 0 then hPutRole S R (nI (ch (p + 1) - 48)) else S) = (dnT (S, R, P) (ch p) (ch (p + 1) - 48) (ch (p + 2) - 48) (ch (p + 3) - 48)).1 := by (simp [dnT, e6_114, hR6, hP10]; done)
    rw [eS1] at hP hD
    exact hend _ _ _ _ _ _ _ (bI_narrow) C hP hD hS (Nat.le_of_ble_eq_true rfl) (Nat.le_of_ble_eq_true rfl) (by (simp [dnB, bI, e6_114, hR6, hP10]; done)) dX3_isDone_75
  by_cases e6_121 : ch p = 121
  · rw [show nI (ch p) = (121 : Int32) from (rfl : nI (ch p) = nI (ch p)).trans (congrArg nI e6_121)]
    refine lv_lookup (off := 75) (tgt := 81) hx hb dX3_isDone_6 (by decide) (by decide) (by decide) ?_
    have hj1 := hok.2 1 (by omega) (by rw [e6_121]; decide)
    have hj2 := hok.2 2 (by omega) (by rw [e6_121]; decide)
    have hj3 := hok.2 3 (by omega) (by rw [e6_121]; decide)
    have hlj1 := ldD_le (ch p) 1
    have hlj2 := ldD_le (ch p) 2
    have hlj3 := ldD_le (ch p) 3
    have hgj1 := gdD_le (ch p) 1
    have hgj2 := gdD_le (ch p) 2
    have hgj3 := gdD_le (ch p) 3
    refine lv_aload_n hx hb dX3_isDone_81 rfl (lv_at hl 2 rfl) ?_
    refine lv_aload_n hx hb dX3_isDone_82 rfl (lv_at hl 0 rfl) ?_
    refine lv_iload_n hx hb dX3_isDone_83 rfl (lv_at hl 1 rfl) ?_
    refine lv_iconst (v := (1 : Int32)) hx hb dX3_isDone_84 (by decide) ?_
    refine lv_iadd hx hb dX3_isDone_85 ?_
    rw [show (nI p) + (1 : Int32) = nI (p + 1) from (nn_add rfl rfl)]
    have hPc := P_sub (ws' := tw K h a T) hP [0, 1] rfl
    refine xr_V (As := [.int (nI (p + 1))]) (rest := [.ref o]) ⟨hx, hb, hml, hown, hts⟩ (c_X3_digit l K h a T (p + 1) L hL0 (by omega) ch (by first | assumption | omega) (by first | assumption | omega) (by first | assumption | omega)) (cwV 1 hts gX3_isDone_X3_digit rfl rfl rfl (by decide +kernel) ⟨Nat.le_of_ble_eq_true rfl, Nat.le_of_ble_eq_true rfl⟩) hK hPc 0 3 rfl rfl rfl rfl hl.1 rfl (Nat.le_of_ble_eq_true rfl) (Nat.le_of_ble_eq_true rfl) (Nat.le_of_ble_eq_true rfl) dX3_isDone_86 ?_
    refine lv_aload_n hx hb dX3_isDone_89 rfl (lv_at hl 0 rfl) ?_
    refine lv_iload_n hx hb dX3_isDone_90 rfl (lv_at hl 1 rfl) ?_
    refine lv_iconst (v := (2 : Int32)) hx hb dX3_isDone_91 (by decide) ?_
    refine lv_iadd hx hb dX3_isDone_92 ?_
    rw [show (nI p) + (2 : Int32) = nI (p + 2) from (nn_add rfl rfl)]
    have hPc := P_sub (ws' := tw K h a T) hP [0, 1] rfl
    refine xr_V (As := [.int (nI (p + 2))]) (rest := [.int (nI (ch (p + 1) - 48)), .ref o]) ⟨hx, hb, hml, hown, hts⟩ (c_X3_digit l K h a T (p + 2) L hL0 (by omega) ch (by first | assumption | omega) (by first | assumption | omega) (by first | assumption | omega)) (cwV 1 hts gX3_isDone_X3_digit rfl rfl rfl (by decide +kernel) ⟨Nat.le_of_ble_eq_true rfl, Nat.le_of_ble_eq_true rfl⟩) hK hPc 0 3 rfl rfl rfl rfl hl.1 rfl (Nat.le_of_ble_eq_true rfl) (Nat.le_of_ble_eq_true rfl) (Nat.le_of_ble_eq_true rfl) dX3_isDone_93 ?_
    refine lv_aload_n hx hb dX3_isDone_96 rfl (lv_at hl 0 rfl) ?_
    refine lv_iload_n hx hb dX3_isDone_97 rfl (lv_at hl 1 rfl) ?_
    refine lv_iconst (v := (3 : Int32)) hx hb dX3_isDone_98 (by decide) ?_
    refine lv_iadd hx hb dX3_isDone_99 ?_
    rw [show (nI p) + (3 : Int32) = nI (p + 3) from (nn_add rfl rfl)]
    have hPc := P_sub (ws' := tw K h a T) hP [0, 1] rfl
    refine xr_V (As := [.int (nI (p + 3))]) (rest := [.int (nI (ch (p + 2) - 48)), .int (nI (ch (p + 1) - 48)), .ref o]) ⟨hx, hb, hml, hown, hts⟩ (c_X3_digit l K h a T (p + 3) L hL0 (by omega) ch (by first | assumption | omega) (by first | assumption | omega) (by first | assumption | omega)) (cwV 1 hts gX3_isDone_X3_digit rfl rfl rfl (by decide +kernel) ⟨Nat.le_of_ble_eq_true rfl, Nat.le_of_ble_eq_true rfl⟩) hK hPc 0 3 rfl rfl rfl rfl hl.1 rfl (Nat.le_of_ble_eq_true rfl) (Nat.le_of_ble_eq_true rfl) (Nat.le_of_ble_eq_true rfl) dX3_isDone_100 ?_
    refine xw_Vi (As := [.int (nI (ch (p + 1) - 48)), .int (nI (ch (p + 2) - 48)), .int (nI (ch (p + 3) - 48))]) (rest := []) (wc := hw K o oa S) (wr := (List.filterMap (fun i => (tw K h a T ++ hw K o oa S ++ cw K c b C : va_W)[i]?) ([0, 1, 13, 14, 15, 16] : List Nat))) ⟨hx, hb, hml, hown, hts⟩ (c_X2_putDegree l K o oa S (ch (p + 1) - 48) (ch (p + 2) - 48) (nI (ch (p + 3) - 48)) (by first | assumption | omega) (by first | assumption | omega) R hR0 (by omega) P hP0 (by omega) H.size) (cwV 3 hts gX3_isDone_X2_putDegree rfl rfl rfl (by decide +kernel) ⟨Nat.le_of_ble_eq_true rfl, Nat.le_of_ble_eq_true rfl⟩) hK hP hD hS hA [2, 3, 4, 5, 6, 7, 8, 9, 10, 11, 12] [0, 1, 13, 14, 15, 16] [0, 1, 6, 7, 8, 9, 10, 11, 12, 13, 14, 15, 16, 2, 3, 4, 5] rfl rfl rfl (fun _u => tw K h a T ++ hw K o oa (if (ch (p + 1) - 48) < P ∧ (ch (p + 2) - 48) < R then hset S 3 ((ch (p + 2) - 48) * 10 + (ch (p + 1) - 48)) (nI (ch (p + 3) - 48)) else S) ++ cw K c b C) (fun _ => rfl) 0 2 rfl rfl rfl rfl hl.1 rfl (Nat.le_of_ble_eq_true rfl) (Nat.le_of_ble_eq_true rfl) (Nat.le_of_ble_eq_true rfl) dX3_isDone_103 (fun r103 _ H locs hq103 hP hD hS => ?_)
    have hP : va_P K.1 vwCl (tw K h a T ++ hw K o oa (if (ch (p + 1) - 48) < P ∧ (ch (p + 2) - 48) < R then hset S 3 ((ch (p + 2) - 48) * 10 + (ch (p + 1) - 48)) (nI (ch (p + 3) - 48)) else S) ++ cw K c b C) H := hP
    have hD : va_D A (tw K h a T ++ hw K o oa (if (ch (p + 1) - 48) < P ∧ (ch (p + 2) - 48) < R then hset S 3 ((ch (p + 2) - 48) * 10 + (ch (p + 1) - 48)) (nI (ch (p + 3) - 48)) else S) ++ cw K c b C) := hD
    subst hq103
    have eS1 : (if (ch (p + 1) - 48) < P ∧ (ch (p + 2) - 48) < R then hset S 3 ((ch (p + 2) - 48) * 10 + (ch (p + 1) - 48)) (nI (ch (p + 3) - 48)) else S) = (dnT (S, R, P) (ch p) (ch (p + 1) - 48) (ch (p + 2) - 48) (ch (p + 3) - 48)).1 := by (simp [dnT, e6_121, hR6, hP10]; done)
    rw [eS1] at hP hD
    exact hend _ _ _ _ _ _ _ (bI_narrow) C hP hD hS (Nat.le_of_ble_eq_true rfl) (Nat.le_of_ble_eq_true rfl) (by (simp [dnB, bI, e6_121, hR6, hP10]; done)) dX3_isDone_106
  have ne6_97 : ¬ nI (ch p) = (97 : Int32) := fun z => e6_97 ((nn_eq rfl (rfl : (97 : Int32) = nI 97) (by omega) (by decide)).mp z)
  have ne6_100 : ¬ nI (ch p) = (100 : Int32) := fun z => e6_100 ((nn_eq rfl (rfl : (100 : Int32) = nI 100) (by omega) (by decide)).mp z)
  have ne6_102 : ¬ nI (ch p) = (102 : Int32) := fun z => e6_102 ((nn_eq rfl (rfl : (102 : Int32) = nI 102) (by omega) (by decide)).mp z)
  have ne6_112 : ¬ nI (ch p) = (112 : Int32) := fun z => e6_112 ((nn_eq rfl (rfl : (112 : Int32) = nI 112) (by omega) (by decide)).mp z)
  have ne6_114 : ¬ nI (ch p) = (114 : Int32) := fun z => e6_114 ((nn_eq rfl (rfl : (114 : Int32) = nI 114) (by omega) (by decide)).mp z)
  have ne6_121 : ¬ nI (ch p) = (121 : Int32) := fun z => e6_121 ((nn_eq rfl (rfl : (121 : Int32) = nI 121) (by omega) (by decide)).mp z)
  refine lv_lookup (off := 151) (tgt := 157) hx hb dX3_isDone_6 (by decide) (by show Op.lookupswitch.offset [(97, 120), (100, 139), (102, 101), (112, 70), (114, 58), (121, 75)] 151 _ = _; rw [lv_osw (a := 97) ne6_97 (by decide), lv_osw (a := 100) ne6_100 (by decide), lv_osw (a := 102) ne6_102 (by decide), lv_osw (a := 112) ne6_112 (by decide), lv_osw (a := 114) ne6_114 (by decide), lv_osw (a := 121) ne6_121 (by decide)]; rfl) (by decide) ?_
  refine lv_aload_n hx hb dX3_isDone_157 rfl (lv_at hl 2 rfl) ?_
  have hPc := P_sub (ws' := hw K o oa S) hP [2, 3, 4, 5, 6, 7, 8, 9, 10, 11, 12] rfl
  refine xr_V (As := []) (rest := []) ⟨hx, hb, hml, hown, hts⟩ (c_X2_roleCount l K o oa S) (cwV 0 hts gX3_isDone_X2_roleCount rfl rfl rfl (by decide +kernel) ⟨Nat.le_of_ble_eq_true rfl, Nat.le_of_ble_eq_true rfl⟩) hK hPc 0 2 rfl rfl rfl rfl hl.1 rfl (Nat.le_of_ble_eq_true rfl) (Nat.le_of_ble_eq_true rfl) (Nat.le_of_ble_eq_true rfl) dX3_isDone_158 ?_
  refine xn_if_ne (tgt := 166) hx hb R hR0 (by omega) dX3_isDone_161 (by decide) (fun c_161 => ?_) (fun c_161 => ?_)
  · skip
    refine lv_aload_n hx hb dX3_isDone_166 rfl (lv_at hl 2 rfl) ?_
    refine lv_aload_n hx hb dX3_isDone_167 rfl (lv_at hl 3 rfl) ?_
    refine xw_Vi (As := [.ref c]) (rest := []) (wc := hw K o oa S ++ cw K c b C) (wr := (List.filterMap (fun i => (tw K h a T ++ hw K o oa S ++ cw K c b C : va_W)[i]?) ([0, 1] : List Nat))) ⟨hx, hb, hml, hown, hts⟩ (c_X2_playDay l K o oa S c b C R hR0 (by omega) P hP0 (by omega) H.size) (cwV 1 hts gX3_isDone_X2_playDay rfl rfl rfl (by decide +kernel) ⟨Nat.le_of_ble_eq_true rfl, Nat.le_of_ble_eq_true rfl⟩) hK hP hD hS hA [2, 3, 4, 5, 6, 7, 8, 9, 10, 11, 12, 13, 14, 15, 16] [0, 1] [0, 1, 2, 3, 4, 5, 6, 7, 8, 9, 10, 11, 12, 13, 14, 15, 16] rfl rfl rfl (fun D168 => tw K h a T ++ hw K o oa (hPlay S R P) ++ cw K c b D168) (fun _ => rfl) 0 2 rfl rfl rfl rfl hl.1 rfl (Nat.le_of_ble_eq_true rfl) (Nat.le_of_ble_eq_true rfl) (Nat.le_of_ble_eq_true rfl) dX3_isDone_168 (fun r168 D168 H locs hq168 hP hD hS => ?_)
    have hP : va_P K.1 vwCl (tw K h a T ++ hw K o oa (hPlay S R P) ++ cw K c b D168) H := hP
    have hD : va_D A (tw K h a T ++ hw K o oa (hPlay S R P) ++ cw K c b D168) := hD
    subst hq168
    refine lv_pop hx hb dX3_isDone_171 rfl ?_
    refine lv_iconst (v := (1 : Int32)) hx hb dX3_isDone_172 (by decide) ?_
    have eS1 : (hPlay S R P) = (dnT (S, R, P) (ch p) (ch (p + 1) - 48) (ch (p + 2) - 48) (ch (p + 3) - 48)).1 := by (simp [dnT, e6_97, e6_100, e6_102, e6_112, e6_114, e6_121, c_161, hR6, hP10]; done)
    rw [eS1] at hP hD
    exact hend _ _ _ _ _ _ _ (by decide) D168 hP hD hS (Nat.le_of_ble_eq_true rfl) (Nat.le_of_ble_eq_true rfl) (by (simp [dnB, bI, e6_97, e6_100, e6_102, e6_112, e6_114, e6_121, c_161, hR6, hP10]; done)) dX3_isDone_173
  · skip
    refine lv_iconst (v := (0 : Int32)) hx hb dX3_isDone_164 (by decide) ?_
    have eS1 : (S) = (dnT (S, R, P) (ch p) (ch (p + 1) - 48) (ch (p + 2) - 48) (ch (p + 3) - 48)).1 := by (simp [dnT, e6_97, e6_100, e6_102, e6_112, e6_114, e6_121, c_161, hR6, hP10]; done)
    rw [eS1] at hP hD
    exact hend _ _ _ _ _ _ _ (by decide) C hP hD hS (Nat.le_of_ble_eq_true rfl) (Nat.le_of_ble_eq_true rfl) (by (simp [dnB, bI, e6_97, e6_100, e6_102, e6_112, e6_114, e6_121, c_161, hR6, hP10]; done)) dX3_isDone_165

abbrev rm_X3_doCommands : Room := { frames := 6, cells := 0, slots := 0, locals := 140 }
set_option maxHeartbeats 4000000 in
set_option maxRecDepth 100000 in
theorem c_X3_doCommands (l : Launch) (K : KX) (h : Nat) (a : Nat → Nat) (T : HV) (o : Nat) (oa : Nat → Nat) (S : HV) (c : Nat) (b : Nat → Nat) (C : HV) (L : Nat) (hL0 : T 1 0 = nI L) (hL0b : L ≤ 120) (ch : Nat → Nat) (htx : ∀ i, i < L → T 0 i = nI (ch i) ∧ ch i < 256) (hval : ∀ k, posC ch k < L → okC ch L (posC ch k)) (R : Nat) (hR0 : S 10 0 = nI R) (hR0b : R ≤ 6) (P : Nat) (hP0 : S 11 0 = nI P) (hP0b : P ≤ 10) (h16 : S 16 0 = 0) (sz : Nat) : Met l yX3_doCommands wsX3_doCommands rm_X3_doCommands (va_Pc [.ref h, .ref o, .ref c] (xPre K (tw K h a T ++ hw K o oa S ++ cw K c b C) sz)) (va_Qi (fun (r9 : Int32) (u9 : Nat × HV) => r9 = nI (dcO ch (S, R, P) u9.1) ∧ L ≤ posC ch u9.1 ∧ (∀ j, j < u9.1 → posC ch j < L)) (fun u9 t => xPost K (va_A (tw K h a T ++ hw K o oa S ++ cw K c b C) sz) (tw K h a T ++ hw K o oa (dcT ch (S, R, P) u9.1).1 ++ cw K c b u9.2) t) (va_A (tw K h a T ++ hw K o oa S ++ cw K c b C) sz)) 0 0 (va_A (tw K h a T ++ hw K o oa S ++ cw K c b C) sz) := by
  refine xw_starti (cc := cX3_doCommands) (maxL := 5) (by decide) rfl (Nat.le_of_ble_eq_true rfl) ?_
  intro p9 e9 s9 m9 below9 meth9 c9 H locs ls A av9 Q9 hx hb hlocks hml hname hts hown hK hP hD hS hA hsz hend hl
  have hown : s9.vm.findClass RX3 = some m9.cls := hown
  have hl : lv_has ls 5 [(0, .ref h), (1, .ref o), (2, .ref c)] := hl
  have hi3 : ∀ w ∈ u_ws RX3 TX3 2, w ∈ wsX3_doCommands := by decide +kernel
  have lk15 := hts (.fieldLink RX3 15 "StandIns$Text" "length" "I") (by decide +kernel)
  have lk9 := hts (.fieldLink RX3 9 "StandIns$Text" "signs" "[C") (by decide +kernel)
  have hI0 : dcI (S, R, P) := ⟨hR0, hR0b, hP0, hP0b, h16⟩
  refine lv_iconst (v := (0 : Int32)) hx hb dX3_doCommands_0 (by decide) ?_
  refine lv_istore_n (lv' := [(3, .int (0 : Int32)), (0, .ref h), (1, .ref o), (2, .ref c)]) hx hb dX3_doCommands_1 rfl hl (by decide) rfl (fun ls hl => ?_)
  refine lv_iconst (v := (1 : Int32)) hx hb dX3_doCommands_2 (by decide) ?_
  refine lv_istore (lv' := [(4, .int (1 : Int32)), (3, .int (0 : Int32)), (0, .ref h), (1, .ref o), (2, .ref c)]) hx hb dX3_doCommands_3 hl (by decide) rfl (fun ls hl => ?_)
  have lp5 : ∀ (n9 : Nat) (k : Nat) (E : HV) (H : Heap) (locs : List Loc) (ls : Array Slot), L - posC ch k < n9 → (posC ch k ≤ 1000) → (∀ j, j < k → posC ch j < L) → va_P K.1 vwCl (tw K h a T ++ hw K o oa (dcT ch (S, R, P) k).1 ++ cw K c b E) H → va_D A (tw K h a T ++ hw K o oa (dcT ch (S, R, P) k).1 ++ cw K c b E) → va_S A s9.heap H locs → lv_has ls 5 [(0, .ref h), (1, .ref o), (2, .ref c), (3, .int (nI (dcO ch (S, R, P) k))), (4, .int (nI (posC ch k)))] → W p9 l e9 rm_X3_doCommands s9 m9 av9 below9 meth9 c9 H locs 0 0 Q9 (F0 m9 5 ls []) := by
    intro n9
    induction n9 with
    | zero => intro k E H locs ls hmu hk hjk hP hD hS hl; exact absurd hmu (Nat.not_lt_zero _)
    | succ n9 ih5 =>
      intro k E H locs ls hmu hk hjk hP hD hS hl
      have hI := dcT_ok (ch := ch) hI0 k
      refine lv_iload hx hb dX3_doCommands_5 (lv_at hl 4 rfl) ?_
      refine lv_aload_n hx hb dX3_doCommands_7 rfl (lv_at hl 0 rfl) ?_
      refine va_get (ci := 3) (v := .int (T 1 0)) (C := RX3) (T := TX3) (N := 2) hx hb hts hi3 hown hK hP 0 rfl rfl 1 (by decide) lk15 (fun _ h9 => h9) rfl dX3_doCommands_8 ?_
      refine xn_icmp_ge (tgt := 48) hx hb (posC ch k) L rfl hL0 (by omega) (by omega) dX3_doCommands_11 (by decide) (fun c_11 => ?_) (fun c_11 => ?_)
      · skip
        refine lv_iload_n hx hb dX3_doCommands_48 rfl (lv_at hl 3 rfl) ?_
        exact hend _ _ _ _ _ _ _ (k, E) hP hD hS (Nat.le_of_ble_eq_true rfl) (Nat.le_of_ble_eq_true rfl) (by exact ⟨rfl, by omega, hjk⟩) dX3_doCommands_49
      · skip
        have hcp := (htx (posC ch k) c_11).2
        have hdg := dgB_le (ch (posC ch k))
        refine lv_aload_n hx hb dX3_doCommands_14 rfl (lv_at hl 0 rfl) ?_
        refine lv_iload hx hb dX3_doCommands_15 (lv_at hl 4 rfl) ?_
        refine lv_aload_n hx hb dX3_doCommands_17 rfl (lv_at hl 1 rfl) ?_
        refine lv_aload_n hx hb dX3_doCommands_18 rfl (lv_at hl 2 rfl) ?_
        refine xw_Vi (As := [.int (nI (posC ch k)), .ref o, .ref c]) (rest := []) (wc := tw K h a T ++ hw K o oa (dcT ch (S, R, P) k).1 ++ cw K c b E) (wr := (List.filterMap (fun i => (tw K h a T ++ hw K o oa (dcT ch (S, R, P) k).1 ++ cw K c b E : va_W)[i]?) ([] : List Nat))) ⟨hx, hb, hml, hown, hts⟩ (c_X3_isDone l K h a T (posC ch k) o oa (dcT ch (S, R, P) k).1 c b E L hL0 (by omega) ch (by first | assumption | omega) (by first | assumption | omega) (hval k c_11) (dcT ch (S, R, P) k).2.1 hI.1 (by omega) (dcT ch (S, R, P) k).2.2 hI.2.2.1 (by omega) hI.2.2.2.2 H.size) (cwV 3 hts gX3_doCommands_X3_isDone rfl rfl rfl (by decide +kernel) ⟨Nat.le_of_ble_eq_true rfl, Nat.le_of_ble_eq_true rfl⟩) hK hP hD hS hA [0, 1, 2, 3, 4, 5, 6, 7, 8, 9, 10, 11, 12, 13, 14, 15, 16] [] [0, 1, 2, 3, 4, 5, 6, 7, 8, 9, 10, 11, 12, 13, 14, 15, 16] rfl rfl rfl (fun D19 => tw K h a T ++ hw K o oa (dnT ((dcT ch (S, R, P) k).1, (dcT ch (S, R, P) k).2.1, (dcT ch (S, R, P) k).2.2) (ch (posC ch k)) (ch ((posC ch k) + 1) - 48) (ch ((posC ch k) + 2) - 48) (ch ((posC ch k) + 3) - 48)).1 ++ cw K c b D19) (fun _ => rfl) 0 3 rfl rfl rfl rfl hl.1 rfl (Nat.le_of_ble_eq_true rfl) (Nat.le_of_ble_eq_true rfl) (Nat.le_of_ble_eq_true rfl) dX3_doCommands_19 (fun r19 D19 H locs hq19 hP hD hS => ?_)
        have hP : va_P K.1 vwCl (tw K h a T ++ hw K o oa (dnT ((dcT ch (S, R, P) k).1, (dcT ch (S, R, P) k).2.1, (dcT ch (S, R, P) k).2.2) (ch (posC ch k)) (ch ((posC ch k) + 1) - 48) (ch ((posC ch k) + 2) - 48) (ch ((posC ch k) + 3) - 48)).1 ++ cw K c b D19) H := hP
        have hD : va_D A (tw K h a T ++ hw K o oa (dnT ((dcT ch (S, R, P) k).1, (dcT ch (S, R, P) k).2.1, (dcT ch (S, R, P) k).2.2) (ch (posC ch k)) (ch ((posC ch k) + 1) - 48) (ch ((posC ch k) + 2) - 48) (ch ((posC ch k) + 3) - 48)).1 ++ cw K c b D19) := hD
        subst hq19
        refine xb_if_ne (tgt := 28) hx hb dX3_doCommands_22 (by decide) (fun c_22 => ?_) (fun c_22 => ?_)
        · skip
          refine lv_iload hx hb dX3_doCommands_28 (lv_at hl 4 rfl) ?_
          refine lv_iconst (v := (1 : Int32)) hx hb dX3_doCommands_30 (by decide) ?_
          refine lv_aload_n hx hb dX3_doCommands_31 rfl (lv_at hl 0 rfl) ?_
          refine va_get (ci := 3) (v := .ref (a 0)) (C := RX3) (T := TX3) (N := 2) hx hb hts hi3 hown hK hP 0 rfl rfl 0 (by decide) lk9 (fun _ h9 => h9) rfl dX3_doCommands_32 ?_
          refine lv_iload hx hb dX3_doCommands_35 (lv_at hl 4 rfl) ?_
          refine xc_ld hx hb hK hP 1 (f := T 0) rfl (posC ch k) rfl (by omega) (by decide) dX3_doCommands_37 ?_
          rw [show T 0 (posC ch k) = nI (ch (posC ch k)) from (htx (posC ch k) (by omega)).1]
          have hPc := P_sub (ws' := []) hP [] rfl
          refine xr_S (As := [.int (nI (ch (posC ch k)))]) (rest := [.int (1 : Int32), .int (nI (posC ch k))]) ⟨hx, hb, hml, hown, hts⟩ (c_X3_digitsBehind l K (ch (posC ch k)) (by omega)) (va_cwS 1 hts gX3_doCommands_X3_digitsBehind rfl rfl rfl (by decide +kernel) ⟨Nat.le_of_ble_eq_true rfl, Nat.le_of_ble_eq_true rfl⟩) hK hPc rfl hl.1 rfl (Nat.le_of_ble_eq_true rfl) (Nat.le_of_ble_eq_true rfl) (Nat.le_of_ble_eq_true rfl) dX3_doCommands_38 ?_
          refine lv_iadd hx hb dX3_doCommands_41 ?_
          refine lv_iadd hx hb dX3_doCommands_42 ?_
          refine lv_istore (lv' := [(4, .int ((nI (posC ch k)) + ((1 : Int32) + (nI (dgB (ch (posC ch k))))))), (0, .ref h), (1, .ref o), (2, .ref c), (3, .int (nI (dcO ch (S, R, P) k)))]) hx hb dX3_doCommands_43 hl (by decide) rfl (fun ls hl => ?_)
          refine lv_goto (tgt := 5) hx hb dX3_doCommands_45 (by decide) ?_
          have eS1 : ((dnT ((dcT ch (S, R, P) k).1, (dcT ch (S, R, P) k).2.1, (dcT ch (S, R, P) k).2.2) (ch (posC ch k)) (ch ((posC ch k) + 1) - 48) (ch ((posC ch k) + 2) - 48) (ch ((posC ch k) + 3) - 48)).1) = (dcT ch (S, R, P) (k + 1)).1 := by rfl
          have hP : va_P K.1 vwCl (tw K h a T ++ hw K o oa (dcT ch (S, R, P) (k + 1)).1 ++ cw K c b D19) H := by rw [← eS1]; exact hP
          have hD : va_D A (tw K h a T ++ hw K o oa (dcT ch (S, R, P) (k + 1)).1 ++ cw K c b D19) := by rw [← eS1]; exact hD
          exact ih5 (k + 1) D19 _ _ _ (by rw [posC]; omega) (by rw [posC]; omega) (by intro j hj; rcases Nat.lt_succ_iff_lt_or_eq.mp hj with z | z; exact hjk j z; rw [z]; exact c_11) hP hD hS (lv_cons (lv_at hl 1 rfl) (lv_cons (lv_at hl 2 rfl) (lv_cons (lv_at hl 3 rfl) (lv_cons (lv_is (lv_at hl 4 rfl) (show nI (dcO ch (S, R, P) k) = nI (dcO ch (S, R, P) (k + 1)) by (rw [dcO]; first | exact (congrArg nI (if_pos c_22)).symm | exact (congrArg nI (if_neg c_22)).symm))) (lv_cons (lv_is (lv_at hl 0 rfl) (show (nI (posC ch k)) + ((1 : Int32) + (nI (dgB (ch (posC ch k))))) = nI (posC ch (k + 1)) by (rw [posC]; exact nn_add rfl (nn_add rfl rfl)))) (lv_nil hl))))))
        · skip
          refine lv_iinc (v := nI ((dcO ch (S, R, P) k) + 1)) (lv' := [(3, .int (nI ((dcO ch (S, R, P) k) + 1))), (0, .ref h), (1, .ref o), (2, .ref c), (4, .int (nI (posC ch k)))]) hx hb dX3_doCommands_25 hl (k := 3) rfl (nI_1 _) (by decide) rfl (fun ls hl => ?_)
          refine lv_iload hx hb dX3_doCommands_28 (lv_at hl 4 rfl) ?_
          refine lv_iconst (v := (1 : Int32)) hx hb dX3_doCommands_30 (by decide) ?_
          refine lv_aload_n hx hb dX3_doCommands_31 rfl (lv_at hl 1 rfl) ?_
          refine va_get (ci := 3) (v := .ref (a 0)) (C := RX3) (T := TX3) (N := 2) hx hb hts hi3 hown hK hP 0 rfl rfl 0 (by decide) lk9 (fun _ h9 => h9) rfl dX3_doCommands_32 ?_
          refine lv_iload hx hb dX3_doCommands_35 (lv_at hl 4 rfl) ?_
          refine xc_ld hx hb hK hP 1 (f := T 0) rfl (posC ch k) rfl (by omega) (by decide) dX3_doCommands_37 ?_
          rw [show T 0 (posC ch k) = nI (ch (posC ch k)) from (htx (posC ch k) (by omega)).1]
          have hPc := P_sub (ws' := []) hP [] rfl
          refine xr_S (As := [.int (nI (ch (posC ch k)))]) (rest := [.int (1 : Int32), .int (nI (posC ch k))]) ⟨hx, hb, hml, hown, hts⟩ (c_X3_digitsBehind l K (ch (posC ch k)) (by omega)) (va_cwS 1 hts gX3_doCommands_X3_digitsBehind rfl rfl rfl (by decide +kernel) ⟨Nat.le_of_ble_eq_true rfl, Nat.le_of_ble_eq_true rfl⟩) hK hPc rfl hl.1 rfl (Nat.le_of_ble_eq_true rfl) (Nat.le_of_ble_eq_true rfl) (Nat.le_of_ble_eq_true rfl) dX3_doCommands_38 ?_
          refine lv_iadd hx hb dX3_doCommands_41 ?_
          refine lv_iadd hx hb dX3_doCommands_42 ?_
          refine lv_istore (lv' := [(4, .int ((nI (posC ch k)) + ((1 : Int32) + (nI (dgB (ch (posC ch k))))))), (3, .int (nI ((dcO ch (S, R, P) k) + 1))), (0, .ref h), (1, .ref o), (2, .ref c)]) hx hb dX3_doCommands_43 hl (by decide) rfl (fun ls hl => ?_)
          refine lv_goto (tgt := 5) hx hb dX3_doCommands_45 (by decide) ?_
          have eS1 : ((dnT ((dcT ch (S, R, P) k).1, (dcT ch (S, R, P) k).2.1, (dcT ch (S, R, P) k).2.2) (ch (posC ch k)) (ch ((posC ch k) + 1) - 48) (ch ((posC ch k) + 2) - 48) (ch ((posC ch k) + 3) - 48)).1) = (dcT ch (S, R, P) (k + 1)).1 := by rfl
          have hP : va_P K.1 vwCl (tw K h a T ++ hw K o oa (dcT ch (S, R, P) (k + 1)).1 ++ cw K c b D19) H := by rw [← eS1]; exact hP
          have hD : va_D A (tw K h a T ++ hw K o oa (dcT ch (S, R, P) (k + 1)).1 ++ cw K c b D19) := by rw [← eS1]; exact hD
          exact ih5 (k + 1) D19 _ _ _ (by rw [posC]; omega) (by rw [posC]; omega) (by intro j hj; rcases Nat.lt_succ_iff_lt_or_eq.mp hj with z | z; exact hjk j z; rw [z]; exact c_11) hP hD hS (lv_cons (lv_at hl 2 rfl) (lv_cons (lv_at hl 3 rfl) (lv_cons (lv_at hl 4 rfl) (lv_cons (lv_is (lv_at hl 1 rfl) (show nI ((dcO ch (S, R, P) k) + 1) = nI (dcO ch (S, R, P) (k + 1)) by (rw [dcO]; first | exact (congrArg nI (if_pos c_22)).symm | exact (congrArg nI (if_neg c_22)).symm))) (lv_cons (lv_is (lv_at hl 0 rfl) (show (nI (posC ch k)) + ((1 : Int32) + (nI (dgB (ch (posC ch k))))) = nI (posC ch (k + 1)) by (rw [posC]; exact nn_add rfl (nn_add rfl rfl)))) (lv_nil hl))))))
  have eS1 : (S) = (dcT ch (S, R, P) 0).1 := by rfl
  have hP : va_P K.1 vwCl (tw K h a T ++ hw K o oa (dcT ch (S, R, P) 0).1 ++ cw K c b C) H := by rw [← eS1]; exact hP
  have hD : va_D A (tw K h a T ++ hw K o oa (dcT ch (S, R, P) 0).1 ++ cw K c b C) := by rw [← eS1]; exact hD
  exact lp5 _ 0 C _ _ _ (Nat.lt_succ_self _) (by show 1 ≤ 1000; decide) (by intro j hj; omega) hP hD hS (lv_cons (lv_at hl 2 rfl) (lv_cons (lv_at hl 3 rfl) (lv_cons (lv_at hl 4 rfl) (lv_cons (lv_is (lv_at hl 1 rfl) (show (0 : Int32) = nI (dcO ch (S, R, P) 0) by rfl)) (lv_cons (lv_is (lv_at hl 0 rfl) (show (1 : Int32) = nI (posC ch 0) by rfl)) (lv_nil hl))))))

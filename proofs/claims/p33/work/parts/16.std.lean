/-! the class's methods: text, reading -/
def kAppend (L : Nat) (c : Int32) : Nat := if ¬ inR c 0 255 then 1 else if 120 ≤ L then 2 else 0
def kUp (w : Int32) (n : Int32) : Nat := if inR w 0 n then 0 else 1
theorem out_rng {w : Int32} {n : Nat} (hn : n < 2 ^ 31) (h : ∀ k, k ≤ n → ¬ w = nI k) : ¬ inR w 0 (nI n) := by
  intro z
  have z2 := rng_cN (lo := 0) (hi := n) z ⟨by decide, hn⟩
  exact h _ z2.2.2 z2.1
def abF (S : HV) (P : Nat) (w : Int32) : Int32 := if w = 0 then S 10 0 else if w = 1 then S 11 0 else if w = 2 then S 12 0 else if w = 3 then S 13 0 else if w = 4 then S 14 0 else if w = 5 then sumN (S 5) P else if w = 6 then S 16 0 else S 15 0
def kRole (S : HV) (r w : Int32) : Nat := if ¬ isRo S r then 1 else if ¬ inR w 0 4 then 2 else 0
def rlF (S : HV) (R P : Nat) (r w : Int32) : Int32 := if w = 0 then S 0 (cN r) else if w = 1 then S 1 (cN r) else if w = 2 then hCs S R P (cN r) else if w = 3 then (if S 16 0 = 0 then -1 else S 2 (cN r)) else cntC S (cN r) P
def kPlayer (S : HV) (p w : Int32) : Nat := if ¬ isPl S p then 1 else if ¬ inR w 0 5 then 2 else 0
def plF (S : HV) (R P : Nat) (p w : Int32) : Int32 := if w = 0 then S 5 (cN p) else if w = 1 then S 6 (cN p) else if w = 2 then (if 0 < S 7 (cN p) - S 12 0 then S 7 (cN p) - S 12 0 else 0) else if w = 3 then bI (hFree S (cN p)) else if w = 4 then S 8 (cN p) else fstF (fun r => decide (hCs S R P r = p)) 0 R
def kBoth (S : HV) (p r w : Int32) : Nat := if ¬ isPl S p ∨ ¬ isRo S r then 1 else if ¬ inR w 0 2 then 2 else 0
def boF (S : HV) (p r w : Int32) : Int32 := if w = 0 then S 3 (cN r * 10 + cN p) else if w = 1 then S 4 (cN r * 10 + cN p) else wOf S (cN p) (cN r)
def kRank (k : Int32) : Nat := if k < 0 then 1 else 0

abbrev rm_X5_about : Room := { frames := 6, cells := 4, slots := 24, locals := 90 }
set_option maxHeartbeats 4000000 in
set_option maxRecDepth 100000 in
theorem c_X5_about (l : Launch) (hls : l.stackTraces = false) (K : KX) (x : Nat) (tx : Nat) (ho : Nat) (ca : Nat) (tr : Nat) (hi : Nat) (sl : Nat) (sv : Nat) (w : Int32) (hoa : Nat → Nat) (S : HV) (P : Nat) (hP0 : S 11 0 = nI P) (hP0b : P ≤ 10) (hz : S 16 0 = 0 ∨ S 16 0 = 1) (sz : Nat) : vx_Met l yX5_about wsX5_about rm_X5_about (va_Pc [.ref x, .int w] (xPreS K ([(x, .inr (5, [.ref tx, .ref ho, .ref ca, .ref tr, .ref hi, .ref sl, .ref sv]))] ++ hw K ho hoa S) sz)) (va_Qi (fun (r9 : Int32) (_u : Unit) => kUp w 7 = 0 ∧ r9 = abF S P w) (fun _u t => xPost K (va_A ([(x, .inr (5, [.ref tx, .ref ho, .ref ca, .ref tr, .ref hi, .ref sl, .ref sv]))] ++ hw K ho hoa S) sz) ([(x, .inr (5, [.ref tx, .ref ho, .ref ca, .ref tr, .ref hi, .ref sl, .ref sv]))] ++ hw K ho hoa S) t) (va_A ([(x, .inr (5, [.ref tx, .ref ho, .ref ca, .ref tr, .ref hi, .ref sl, .ref sv]))] ++ hw K ho hoa S) sz)) (xXC K (va_A ([(x, .inr (5, [.ref tx, .ref ho, .ref ca, .ref tr, .ref hi, .ref sl, .ref sv]))] ++ hw K ho hoa S) sz) (fun (E : String) (_u8 : Unit) => (kUp w 7 = 1 ∧ E = exA)) (fun _u8 => [(x, .inr (5, [.ref tx, .ref ho, .ref ca, .ref tr, .ref hi, .ref sl, .ref sv]))] ++ hw K ho hoa S)) 4 24 (va_A ([(x, .inr (5, [.ref tx, .ref ho, .ref ca, .ref tr, .ref hi, .ref sl, .ref sv]))] ++ hw K ho hoa S) sz) := by
  refine xt_starti (cc := cX5_about) (maxL := 2) hls (by decide) rfl rfl (Nat.le_of_ble_eq_true rfl) ⟨Nat.le_of_ble_eq_true rfl, Nat.le_of_ble_eq_true rfl, Nat.le_of_ble_eq_true rfl, Nat.le_of_ble_eq_true rfl⟩ ?_
  intro p9 e9 s9 m9 below9 meth9 c9 H locs ls A av9 Q9 hx hb hlocks hml hname hts hown hK hP hD hS hA hsz hZ hend hthr hout hl
  have hown : s9.vm.findClass RX5 = some m9.cls := hown
  have hl : lv_has ls 2 [(0, .ref x), (1, .int w)] := hl
  have hi5 : ∀ w ∈ u_ws RX5 TX5 7, w ∈ wsX5_about := by decide +kernel
  have lk19 := hts (.fieldLink RX5 19 "StandIns" "house" "LStandIns$House;") (by decide +kernel)
  refine lv_iload_n hx hb dX5_about_0 rfl (lv_at hl 1 rfl) ?_
  by_cases e1_0 : w = (0 : Int32)
  · rw [show w = (0 : Int32) from e1_0]
    refine lv_tableIn (off := 47) (tgt := 48) hx hb dX5_about_1 (by decide) (by decide) (by decide) (by decide) ?_
    have hsk := e1_0
    refine lv_aload_n hx hb dX5_about_48 rfl (lv_at hl 0 rfl) ?_
    refine va_get (ci := 5) (v := .ref ho) (C := RX5) (T := TX5) (N := 7) hx hb hts hi5 hown hK hP 0 rfl rfl 1 (by decide) lk19 (fun _ h9 => h9) rfl dX5_about_49 ?_
    have hPc := P_sub (ws' := hw K ho hoa S) hP [1, 2, 3, 4, 5, 6, 7, 8, 9, 10, 11] rfl
    refine xr_V (As := []) (rest := []) ⟨hx, hb, hml, hown, hts⟩ (c_X2_roleCount l K ho hoa S) (cwV 0 hts gX5_about_X2_roleCount rfl rfl rfl (by decide +kernel) ⟨Nat.le_of_ble_eq_true rfl, Nat.le_of_ble_eq_true rfl⟩) hK hPc 0 2 rfl rfl rfl rfl hl.1 rfl (Nat.le_of_ble_eq_true rfl) (Nat.le_of_ble_eq_true rfl) (Nat.le_of_ble_eq_true rfl) dX5_about_52 ?_
    exact hend _ _ _ _ _ _ _ () hP hD hS (Nat.le_of_ble_eq_true rfl) (Nat.le_of_ble_eq_true rfl) (by exact ⟨by rw [hsk]; decide, by rw [hsk]; first | rfl | (rcases hz with h | h <;> simp_all [abF])⟩) dX5_about_55
  by_cases e1_1 : w = (1 : Int32)
  · rw [show w = (1 : Int32) from e1_1]
    refine lv_tableIn (off := 55) (tgt := 56) hx hb dX5_about_1 (by decide) (by decide) (by decide) (by decide) ?_
    have hsk := e1_1
    refine lv_aload_n hx hb dX5_about_56 rfl (lv_at hl 0 rfl) ?_
    refine va_get (ci := 5) (v := .ref ho) (C := RX5) (T := TX5) (N := 7) hx hb hts hi5 hown hK hP 0 rfl rfl 1 (by decide) lk19 (fun _ h9 => h9) rfl dX5_about_57 ?_
    have hPc := P_sub (ws' := hw K ho hoa S) hP [1, 2, 3, 4, 5, 6, 7, 8, 9, 10, 11] rfl
    refine xr_V (As := []) (rest := []) ⟨hx, hb, hml, hown, hts⟩ (c_X2_playerCount l K ho hoa S) (cwV 0 hts gX5_about_X2_playerCount rfl rfl rfl (by decide +kernel) ⟨Nat.le_of_ble_eq_true rfl, Nat.le_of_ble_eq_true rfl⟩) hK hPc 0 2 rfl rfl rfl rfl hl.1 rfl (Nat.le_of_ble_eq_true rfl) (Nat.le_of_ble_eq_true rfl) (Nat.le_of_ble_eq_true rfl) dX5_about_60 ?_
    exact hend _ _ _ _ _ _ _ () hP hD hS (Nat.le_of_ble_eq_true rfl) (Nat.le_of_ble_eq_true rfl) (by exact ⟨by rw [hsk]; decide, by rw [hsk]; first | rfl | (rcases hz with h | h <;> simp_all [abF])⟩) dX5_about_63
  by_cases e1_2 : w = (2 : Int32)
  · rw [show w = (2 : Int32) from e1_2]
    refine lv_tableIn (off := 63) (tgt := 64) hx hb dX5_about_1 (by decide) (by decide) (by decide) (by decide) ?_
    have hsk := e1_2
    refine lv_aload_n hx hb dX5_about_64 rfl (lv_at hl 0 rfl) ?_
    refine va_get (ci := 5) (v := .ref ho) (C := RX5) (T := TX5) (N := 7) hx hb hts hi5 hown hK hP 0 rfl rfl 1 (by decide) lk19 (fun _ h9 => h9) rfl dX5_about_65 ?_
    have hPc := P_sub (ws' := hw K ho hoa S) hP [1, 2, 3, 4, 5, 6, 7, 8, 9, 10, 11] rfl
    refine xr_V (As := []) (rest := []) ⟨hx, hb, hml, hown, hts⟩ (c_X2_dayNow l K ho hoa S) (cwV 0 hts gX5_about_X2_dayNow rfl rfl rfl (by decide +kernel) ⟨Nat.le_of_ble_eq_true rfl, Nat.le_of_ble_eq_true rfl⟩) hK hPc 0 2 rfl rfl rfl rfl hl.1 rfl (Nat.le_of_ble_eq_true rfl) (Nat.le_of_ble_eq_true rfl) (Nat.le_of_ble_eq_true rfl) dX5_about_68 ?_
    exact hend _ _ _ _ _ _ _ () hP hD hS (Nat.le_of_ble_eq_true rfl) (Nat.le_of_ble_eq_true rfl) (by exact ⟨by rw [hsk]; decide, by rw [hsk]; first | rfl | (rcases hz with h | h <;> simp_all [abF])⟩) dX5_about_71
  by_cases e1_3 : w = (3 : Int32)
  · rw [show w = (3 : Int32) from e1_3]
    refine lv_tableIn (off := 71) (tgt := 72) hx hb dX5_about_1 (by decide) (by decide) (by decide) (by decide) ?_
    have hsk := e1_3
    refine lv_aload_n hx hb dX5_about_72 rfl (lv_at hl 0 rfl) ?_
    refine va_get (ci := 5) (v := .ref ho) (C := RX5) (T := TX5) (N := 7) hx hb hts hi5 hown hK hP 0 rfl rfl 1 (by decide) lk19 (fun _ h9 => h9) rfl dX5_about_73 ?_
    have hPc := P_sub (ws' := hw K ho hoa S) hP [1, 2, 3, 4, 5, 6, 7, 8, 9, 10, 11] rfl
    refine xr_V (As := []) (rest := []) ⟨hx, hb, hml, hown, hts⟩ (c_X2_performedCount l K ho hoa S) (cwV 0 hts gX5_about_X2_performedCount rfl rfl rfl (by decide +kernel) ⟨Nat.le_of_ble_eq_true rfl, Nat.le_of_ble_eq_true rfl⟩) hK hPc 0 2 rfl rfl rfl rfl hl.1 rfl (Nat.le_of_ble_eq_true rfl) (Nat.le_of_ble_eq_true rfl) (Nat.le_of_ble_eq_true rfl) dX5_about_76 ?_
    exact hend _ _ _ _ _ _ _ () hP hD hS (Nat.le_of_ble_eq_true rfl) (Nat.le_of_ble_eq_true rfl) (by exact ⟨by rw [hsk]; decide, by rw [hsk]; first | rfl | (rcases hz with h | h <;> simp_all [abF])⟩) dX5_about_79
  by_cases e1_4 : w = (4 : Int32)
  · rw [show w = (4 : Int32) from e1_4]
    refine lv_tableIn (off := 79) (tgt := 80) hx hb dX5_about_1 (by decide) (by decide) (by decide) (by decide) ?_
    have hsk := e1_4
    refine lv_aload_n hx hb dX5_about_80 rfl (lv_at hl 0 rfl) ?_
    refine va_get (ci := 5) (v := .ref ho) (C := RX5) (T := TX5) (N := 7) hx hb hts hi5 hown hK hP 0 rfl rfl 1 (by decide) lk19 (fun _ h9 => h9) rfl dX5_about_81 ?_
    have hPc := P_sub (ws' := hw K ho hoa S) hP [1, 2, 3, 4, 5, 6, 7, 8, 9, 10, 11] rfl
    refine xr_V (As := []) (rest := []) ⟨hx, hb, hml, hown, hts⟩ (c_X2_calledOffCount l K ho hoa S) (cwV 0 hts gX5_about_X2_calledOffCount rfl rfl rfl (by decide +kernel) ⟨Nat.le_of_ble_eq_true rfl, Nat.le_of_ble_eq_true rfl⟩) hK hPc 0 2 rfl rfl rfl rfl hl.1 rfl (Nat.le_of_ble_eq_true rfl) (Nat.le_of_ble_eq_true rfl) (Nat.le_of_ble_eq_true rfl) dX5_about_84 ?_
    exact hend _ _ _ _ _ _ _ () hP hD hS (Nat.le_of_ble_eq_true rfl) (Nat.le_of_ble_eq_true rfl) (by exact ⟨by rw [hsk]; decide, by rw [hsk]; first | rfl | (rcases hz with h | h <;> simp_all [abF])⟩) dX5_about_87
  by_cases e1_5 : w = (5 : Int32)
  · rw [show w = (5 : Int32) from e1_5]
    refine lv_tableIn (off := 87) (tgt := 88) hx hb dX5_about_1 (by decide) (by decide) (by decide) (by decide) ?_
    have hsk := e1_5
    refine lv_aload_n hx hb dX5_about_88 rfl (lv_at hl 0 rfl) ?_
    refine va_get (ci := 5) (v := .ref ho) (C := RX5) (T := TX5) (N := 7) hx hb hts hi5 hown hK hP 0 rfl rfl 1 (by decide) lk19 (fun _ h9 => h9) rfl dX5_about_89 ?_
    have hPc := P_sub (ws' := hw K ho hoa S) hP [1, 2, 3, 4, 5, 6, 7, 8, 9, 10, 11] rfl
    refine xr_V (As := []) (rest := []) ⟨hx, hb, hml, hown, hts⟩ (c_X2_paidTogether l K ho hoa S P hP0 (by omega)) (cwV 0 hts gX5_about_X2_paidTogether rfl rfl rfl (by decide +kernel) ⟨Nat.le_of_ble_eq_true rfl, Nat.le_of_ble_eq_true rfl⟩) hK hPc 0 2 rfl rfl rfl rfl hl.1 rfl (Nat.le_of_ble_eq_true rfl) (Nat.le_of_ble_eq_true rfl) (Nat.le_of_ble_eq_true rfl) dX5_about_92 ?_
    exact hend _ _ _ _ _ _ _ () hP hD hS (Nat.le_of_ble_eq_true rfl) (Nat.le_of_ble_eq_true rfl) (by exact ⟨by rw [hsk]; decide, by rw [hsk]; first | rfl | (rcases hz with h | h <;> simp_all [abF])⟩) dX5_about_95
  by_cases e1_6 : w = (6 : Int32)
  · rw [show w = (6 : Int32) from e1_6]
    refine lv_tableIn (off := 95) (tgt := 96) hx hb dX5_about_1 (by decide) (by decide) (by decide) (by decide) ?_
    have hsk := e1_6
    refine lv_aload_n hx hb dX5_about_96 rfl (lv_at hl 0 rfl) ?_
    refine va_get (ci := 5) (v := .ref ho) (C := RX5) (T := TX5) (N := 7) hx hb hts hi5 hown hK hP 0 rfl rfl 1 (by decide) lk19 (fun _ h9 => h9) rfl dX5_about_97 ?_
    have hPc := P_sub (ws' := hw K ho hoa S) hP [1, 2, 3, 4, 5, 6, 7, 8, 9, 10, 11] rfl
    refine xr_V (As := []) (rest := []) ⟨hx, hb, hml, hown, hts⟩ (c_X2_isPosted l K ho hoa S (by first | assumption | omega)) (cwV 0 hts gX5_about_X2_isPosted rfl rfl rfl (by decide +kernel) ⟨Nat.le_of_ble_eq_true rfl, Nat.le_of_ble_eq_true rfl⟩) hK hPc 0 2 rfl rfl rfl rfl hl.1 rfl (Nat.le_of_ble_eq_true rfl) (Nat.le_of_ble_eq_true rfl) (Nat.le_of_ble_eq_true rfl) dX5_about_100 ?_
    refine lv_if_eq (tgt := 110) hx hb dX5_about_103 (by decide) (fun c_103 => ?_) (fun c_103 => ?_)
    · skip
      refine lv_iconst (v := (0 : Int32)) hx hb dX5_about_110 (by decide) ?_
      exact hend _ _ _ _ _ _ _ () hP hD hS (Nat.le_of_ble_eq_true rfl) (Nat.le_of_ble_eq_true rfl) (by exact ⟨by rw [hsk]; decide, by rw [hsk]; first | rfl | (rcases hz with h | h <;> simp_all [abF])⟩) dX5_about_111
    · skip
      refine lv_iconst (v := (1 : Int32)) hx hb dX5_about_106 (by decide) ?_
      refine lv_goto (tgt := 111) hx hb dX5_about_107 (by decide) ?_
      exact hend _ _ _ _ _ _ _ () hP hD hS (Nat.le_of_ble_eq_true rfl) (Nat.le_of_ble_eq_true rfl) (by exact ⟨by rw [hsk]; decide, by rw [hsk]; first | rfl | (rcases hz with h | h <;> simp_all [abF])⟩) dX5_about_111
  by_cases e1_7 : w = (7 : Int32)
  · rw [show w = (7 : Int32) from e1_7]
    refine lv_tableIn (off := 111) (tgt := 112) hx hb dX5_about_1 (by decide) (by decide) (by decide) (by decide) ?_
    have hsk := e1_7
    refine lv_aload_n hx hb dX5_about_112 rfl (lv_at hl 0 rfl) ?_
    refine va_get (ci := 5) (v := .ref ho) (C := RX5) (T := TX5) (N := 7) hx hb hts hi5 hown hK hP 0 rfl rfl 1 (by decide) lk19 (fun _ h9 => h9) rfl dX5_about_113 ?_
    have hPc := P_sub (ws' := hw K ho hoa S) hP [1, 2, 3, 4, 5, 6, 7, 8, 9, 10, 11] rfl
    refine xr_V (As := []) (rest := []) ⟨hx, hb, hml, hown, hts⟩ (c_X2_standInCount l K ho hoa S) (cwV 0 hts gX5_about_X2_standInCount rfl rfl rfl (by decide +kernel) ⟨Nat.le_of_ble_eq_true rfl, Nat.le_of_ble_eq_true rfl⟩) hK hPc 0 2 rfl rfl rfl rfl hl.1 rfl (Nat.le_of_ble_eq_true rfl) (Nat.le_of_ble_eq_true rfl) (Nat.le_of_ble_eq_true rfl) dX5_about_116 ?_
    exact hend _ _ _ _ _ _ _ () hP hD hS (Nat.le_of_ble_eq_true rfl) (Nat.le_of_ble_eq_true rfl) (by exact ⟨by rw [hsk]; decide, by rw [hsk]; first | rfl | (rcases hz with h | h <;> simp_all [abF])⟩) dX5_about_119
  have ne1_0 := lv_neT (a := 0) e1_0 rfl
  have ne1_1 := lv_neT (a := 1) e1_1 rfl
  have ne1_2 := lv_neT (a := 2) e1_2 rfl
  have ne1_3 := lv_neT (a := 3) e1_3 rfl
  have ne1_4 := lv_neT (a := 4) e1_4 rfl
  have ne1_5 := lv_neT (a := 5) e1_5 rfl
  have ne1_6 := lv_neT (a := 6) e1_6 rfl
  have ne1_7 := lv_neT (a := 7) e1_7 rfl
  refine lv_tableOut (tgt := 120) hx hb dX5_about_1 (by omega) (by decide) ?_
  have hsd : ¬ inR w 0 7 := out_rng (n := 7) (by decide) (by
    intro k hk
    rcases (show k = 0 ∨ k = 1 ∨ k = 2 ∨ k = 3 ∨ k = 4 ∨ k = 5 ∨ k = 6 ∨ k = 7 by omega) with rfl | rfl | rfl | rfl | rfl | rfl | rfl | rfl
    · exact e1_0
    · exact e1_1
    · exact e1_2
    · exact e1_3
    · exact e1_4
    · exact e1_5
    · exact e1_6
    · exact e1_7)
  exact hthr _ _ _ _ 120 115 119 117 _ _ exA "no such number" () hP hD hS (Nat.le_of_ble_eq_true rfl) (Nat.le_of_ble_eq_true rfl) (by exact ⟨if_neg hsd, rfl⟩) (by decide) (by decide) (by decide +kernel) (hts (.classLink RX5 115 "java/lang/IllegalArgumentException") (by decide +kernel)) (hts (.initialized "java/lang/IllegalArgumentException") (by decide +kernel)) (fun w9 hw9 => hts w9 (List.mem_cons_of_mem _ (List.mem_append_right _ hw9))) (by decide +kernel) (by decide +kernel) dX5_about_120 dX5_about_123 (Or.inl ⟨dX5_about_124, dX5_about_126, dX5_about_129⟩) hl.1 (Nat.le_of_ble_eq_true rfl)

abbrev rm_X5_role : Room := { frames := 7, cells := 4, slots := 24, locals := 111 }
set_option maxHeartbeats 4000000 in
set_option maxRecDepth 100000 in
theorem c_X5_role (l : Launch) (hls : l.stackTraces = false) (K : KX) (x : Nat) (tx : Nat) (ho : Nat) (ca : Nat) (tr : Nat) (hi : Nat) (sl : Nat) (sv : Nat) (r : Int32) (w : Int32) (hoa : Nat → Nat) (S : HV) (caa : Nat → Nat) (C : HV) (R : Nat) (hR0 : S 10 0 = nI R) (hR0b : R ≤ 6) (P : Nat) (hP0 : S 11 0 = nI P) (hP0b : P ≤ 10) (sz : Nat) : vx_Met l yX5_role wsX5_role rm_X5_role (va_Pc [.ref x, .int r, .int w] (xPreS K ([(x, .inr (5, [.ref tx, .ref ho, .ref ca, .ref tr, .ref hi, .ref sl, .ref sv]))] ++ hw K ho hoa S ++ cw K ca caa C) sz)) (va_Qi (fun (r9 : Int32) (u9 : HV) => kRole S r w = 0 ∧ r9 = rlF S R P r w) (fun u9 t => xPost K (va_A ([(x, .inr (5, [.ref tx, .ref ho, .ref ca, .ref tr, .ref hi, .ref sl, .ref sv]))] ++ hw K ho hoa S ++ cw K ca caa C) sz) ([(x, .inr (5, [.ref tx, .ref ho, .ref ca, .ref tr, .ref hi, .ref sl, .ref sv]))] ++ hw K ho hoa S ++ cw K ca caa u9) t) (va_A ([(x, .inr (5, [.ref tx, .ref ho, .ref ca, .ref tr, .ref hi, .ref sl, .ref sv]))] ++ hw K ho hoa S ++ cw K ca caa C) sz)) (xXC K (va_A ([(x, .inr (5, [.ref tx, .ref ho, .ref ca, .ref tr, .ref hi, .ref sl, .ref sv]))] ++ hw K ho hoa S ++ cw K ca caa C) sz) (fun (E : String) (_u8 : Unit) => (kRole S r w = 1 ∧ E = exI) ∨ (kRole S r w = 2 ∧ E = exA)) (fun _u8 => [(x, .inr (5, [.ref tx, .ref ho, .ref ca, .ref tr, .ref hi, .ref sl, .ref sv]))] ++ hw K ho hoa S ++ cw K ca caa C)) 4 24 (va_A ([(x, .inr (5, [.ref tx, .ref ho, .ref ca, .ref tr, .ref hi, .ref sl, .ref sv]))] ++ hw K ho hoa S ++ cw K ca caa C) sz) := by
  refine xt_starti (cc := cX5_role) (maxL := 3) hls (by decide) rfl rfl (Nat.le_of_ble_eq_true rfl) ⟨Nat.le_of_ble_eq_true rfl, Nat.le_of_ble_eq_true rfl, Nat.le_of_ble_eq_true rfl, Nat.le_of_ble_eq_true rfl⟩ ?_
  intro p9 e9 s9 m9 below9 meth9 c9 H locs ls A av9 Q9 hx hb hlocks hml hname hts hown hK hP hD hS hA hsz hZ hend hthr hout hl
  have hown : s9.vm.findClass RX5 = some m9.cls := hown
  have hl : lv_has ls 3 [(0, .ref x), (1, .int r), (2, .int w)] := hl
  have hi5 : ∀ w ∈ u_ws RX5 TX5 7, w ∈ wsX5_role := by decide +kernel
  have lk19 := hts (.fieldLink RX5 19 "StandIns" "house" "LStandIns$House;") (by decide +kernel)
  have lk26 := hts (.fieldLink RX5 26 "StandIns" "casting" "LStandIns$Casting;") (by decide +kernel)
  have hfl : frN S P < 1024 := Nat.lt_of_lt_of_le (frN_lt S P) (pw_le hP0b)
  refine lv_aload_n hx hb dX5_role_0 rfl (lv_at hl 0 rfl) ?_
  refine lv_iload_n hx hb dX5_role_1 rfl (lv_at hl 1 rfl) ?_
  have hpm2 : ([(x, .inr (5, [.ref tx, .ref ho, .ref ca, .ref tr, .ref hi, .ref sl, .ref sv]))] ++ hw K ho hoa S ++ cw K ca caa C : va_W).Perm (([(x, .inr (5, [.ref tx, .ref ho, .ref ca, .ref tr, .ref hi, .ref sl, .ref sv]))] ++ hw K ho hoa S : va_W) ++ (cw K ca caa C : va_W)) := perm_split ([[(x, .inr (5, [.ref tx, .ref ho, .ref ca, .ref tr, .ref hi, .ref sl, .ref sv]))], hw K ho hoa S, cw K ca caa C] : List va_W) 3 rfl [0, 1] [2] (by decide)
  refine xt_Vv (As := [.int r]) (rest := []) (wc := [(x, .inr (5, [.ref tx, .ref ho, .ref ca, .ref tr, .ref hi, .ref sl, .ref sv]))] ++ hw K ho hoa S) (wr := cw K ca caa C) ⟨hx, hb, hml, hown, hts⟩ (c_X5_needRole l hls K x tx ho ca tr hi sl sv r hoa S H.size) (cwV 1 hts gX5_role_X5_needRole rfl rfl rfl (by decide +kernel) ⟨Nat.le_of_ble_eq_true rfl, Nat.le_of_ble_eq_true rfl⟩) hK hP hD hS hZ hA hpm2 0 5 rfl rfl rfl rfl hl.1 rfl (Nat.le_of_ble_eq_true rfl) (Nat.le_of_ble_eq_true rfl) (Nat.le_of_ble_eq_true rfl) dX5_role_2 (fun E9 ce9 q9 H locs hpx2 hP hD hS hce9 hcv9 hcl9 => hout _ _ _ _ _ _ _ E9 ce9 q9 () hP hD hS (Nat.le_of_ble_eq_true rfl) (Nat.le_of_ble_eq_true rfl) (by obtain ⟨hE9, hn9⟩ := hpx2; (simp [kRole, hE9, hn9, ]; done)) hce9 hcv9 hcl9) (fun H locs hq2 hP hD hS => ?_)
  have hP : va_P K.1 vwCl ([(x, .inr (5, [.ref tx, .ref ho, .ref ca, .ref tr, .ref hi, .ref sl, .ref sv]))] ++ hw K ho hoa S ++ cw K ca caa C) H := hP
  have hD : va_D A ([(x, .inr (5, [.ref tx, .ref ho, .ref ca, .ref tr, .ref hi, .ref sl, .ref sv]))] ++ hw K ho hoa S ++ cw K ca caa C) := hD
  have hn2 := idx_cN hR0 (by omega) hq2
  refine lv_iload_n hx hb dX5_role_5 rfl (lv_at hl 2 rfl) ?_
  by_cases e6_0 : w = (0 : Int32)
  · rw [show w = (0 : Int32) from e6_0]
    refine lv_tableIn (off := 34) (tgt := 40) hx hb dX5_role_6 (by decide) (by decide) (by decide) (by decide) ?_
    have hsk := e6_0
    refine lv_aload_n hx hb dX5_role_40 rfl (lv_at hl 0 rfl) ?_
    refine va_get (ci := 5) (v := .ref ho) (C := RX5) (T := TX5) (N := 7) hx hb hts hi5 hown hK hP 0 rfl rfl 1 (by decide) lk19 (fun _ h9 => h9) rfl dX5_role_41 ?_
    refine lv_iload_n hx hb dX5_role_44 rfl (lv_at hl 1 rfl) ?_
    rw [show r = nI (cN r) from hn2.1]
    have hPc := P_sub (ws' := hw K ho hoa S) hP [1, 2, 3, 4, 5, 6, 7, 8, 9, 10, 11] rfl
    refine xr_V (As := [.int (nI (cN r))]) (rest := []) ⟨hx, hb, hml, hown, hts⟩ (c_X2_weightOf l K ho hoa S (cN r) (by omega)) (cwV 1 hts gX5_role_X2_weightOf rfl rfl rfl (by decide +kernel) ⟨Nat.le_of_ble_eq_true rfl, Nat.le_of_ble_eq_true rfl⟩) hK hPc 0 2 rfl rfl rfl rfl hl.1 rfl (Nat.le_of_ble_eq_true rfl) (Nat.le_of_ble_eq_true rfl) (Nat.le_of_ble_eq_true rfl) dX5_role_45 ?_
    exact hend _ _ _ _ _ _ _ C hP hD hS (Nat.le_of_ble_eq_true rfl) (Nat.le_of_ble_eq_true rfl) (by refine ⟨by simp [kRole, hq2, hsk], ?_⟩; simp [rlF, hsk]) dX5_role_48
  by_cases e6_1 : w = (1 : Int32)
  · rw [show w = (1 : Int32) from e6_1]
    refine lv_tableIn (off := 43) (tgt := 49) hx hb dX5_role_6 (by decide) (by decide) (by decide) (by decide) ?_
    have hsk := e6_1
    refine lv_aload_n hx hb dX5_role_49 rfl (lv_at hl 0 rfl) ?_
    refine va_get (ci := 5) (v := .ref ho) (C := RX5) (T := TX5) (N := 7) hx hb hts hi5 hown hK hP 0 rfl rfl 1 (by decide) lk19 (fun _ h9 => h9) rfl dX5_role_50 ?_
    refine lv_iload_n hx hb dX5_role_53 rfl (lv_at hl 1 rfl) ?_
    rw [show r = nI (cN r) from hn2.1]
    have hPc := P_sub (ws' := hw K ho hoa S) hP [1, 2, 3, 4, 5, 6, 7, 8, 9, 10, 11] rfl
    refine xr_V (As := [.int (nI (cN r))]) (rest := []) ⟨hx, hb, hml, hown, hts⟩ (c_X2_firstOf l K ho hoa S (cN r) (by omega)) (cwV 1 hts gX5_role_X2_firstOf rfl rfl rfl (by decide +kernel) ⟨Nat.le_of_ble_eq_true rfl, Nat.le_of_ble_eq_true rfl⟩) hK hPc 0 2 rfl rfl rfl rfl hl.1 rfl (Nat.le_of_ble_eq_true rfl) (Nat.le_of_ble_eq_true rfl) (Nat.le_of_ble_eq_true rfl) dX5_role_54 ?_
    exact hend _ _ _ _ _ _ _ C hP hD hS (Nat.le_of_ble_eq_true rfl) (Nat.le_of_ble_eq_true rfl) (by refine ⟨by simp [kRole, hq2, hsk], ?_⟩; simp [rlF, hsk]) dX5_role_57
  by_cases e6_2 : w = (2 : Int32)
  · rw [show w = (2 : Int32) from e6_2]
    refine lv_tableIn (off := 52) (tgt := 58) hx hb dX5_role_6 (by decide) (by decide) (by decide) (by decide) ?_
    have hsk := e6_2
    refine lv_aload_n hx hb dX5_role_58 rfl (lv_at hl 0 rfl) ?_
    refine va_get (ci := 5) (v := .ref ca) (C := RX5) (T := TX5) (N := 7) hx hb hts hi5 hown hK hP 0 rfl rfl 2 (by decide) lk26 (fun _ h9 => h9) rfl dX5_role_59 ?_
    refine lv_aload_n hx hb dX5_role_62 rfl (lv_at hl 0 rfl) ?_
    refine va_get (ci := 5) (v := .ref ho) (C := RX5) (T := TX5) (N := 7) hx hb hts hi5 hown hK hP 0 rfl rfl 1 (by decide) lk19 (fun _ h9 => h9) rfl dX5_role_63 ?_
    refine lv_aload_n hx hb dX5_role_66 rfl (lv_at hl 0 rfl) ?_
    refine va_get (ci := 5) (v := .ref ho) (C := RX5) (T := TX5) (N := 7) hx hb hts hi5 hown hK hP 0 rfl rfl 1 (by decide) lk19 (fun _ h9 => h9) rfl dX5_role_67 ?_
    have hPc := P_sub (ws' := hw K ho hoa S) hP [1, 2, 3, 4, 5, 6, 7, 8, 9, 10, 11] rfl
    refine xr_V (As := []) (rest := [.ref ho, .ref ca]) ⟨hx, hb, hml, hown, hts⟩ (c_X2_freePlayers l K ho hoa S P hP0 (by omega)) (cwV 0 hts gX5_role_X2_freePlayers rfl rfl rfl (by decide +kernel) ⟨Nat.le_of_ble_eq_true rfl, Nat.le_of_ble_eq_true rfl⟩) hK hPc 0 2 rfl rfl rfl rfl hl.1 rfl (Nat.le_of_ble_eq_true rfl) (Nat.le_of_ble_eq_true rfl) (Nat.le_of_ble_eq_true rfl) dX5_role_70 ?_
    have hpm73 : ([(x, .inr (5, [.ref tx, .ref ho, .ref ca, .ref tr, .ref hi, .ref sl, .ref sv]))] ++ hw K ho hoa S ++ cw K ca caa C : va_W).Perm ((cw K ca caa C ++ hw K ho hoa S : va_W) ++ ([(x, .inr (5, [.ref tx, .ref ho, .ref ca, .ref tr, .ref hi, .ref sl, .ref sv]))] : va_W)) := perm_split ([[(x, .inr (5, [.ref tx, .ref ho, .ref ca, .ref tr, .ref hi, .ref sl, .ref sv]))], hw K ho hoa S, cw K ca caa C] : List va_W) 3 rfl [2, 1] [0] (by decide)
    have hpn73 : ∀ (C73 : HV), ((cw K ca caa C73 ++ hw K ho hoa S : va_W) ++ ([(x, .inr (5, [.ref tx, .ref ho, .ref ca, .ref tr, .ref hi, .ref sl, .ref sv]))] : va_W)).Perm ([(x, .inr (5, [.ref tx, .ref ho, .ref ca, .ref tr, .ref hi, .ref sl, .ref sv]))] ++ hw K ho hoa S ++ cw K ca caa C73) := fun C73 => (perm_split ([[(x, .inr (5, [.ref tx, .ref ho, .ref ca, .ref tr, .ref hi, .ref sl, .ref sv]))], hw K ho hoa S, cw K ca caa C73] : List va_W) 3 rfl [2, 1] [0] (by decide)).symm
    refine pw_Vi (As := [.ref ho, .int (nI (frN S P))]) (rest := []) (wc := cw K ca caa C ++ hw K ho hoa S) (wr := [(x, .inr (5, [.ref tx, .ref ho, .ref ca, .ref tr, .ref hi, .ref sl, .ref sv]))]) ⟨hx, hb, hml, hown, hts⟩ (c_X0_seek l K ca caa C ho hoa S (frN S P) (by omega) R hR0 (by omega) P hP0 (by omega) H.size) (cwV 2 hts gX5_role_X0_seek rfl rfl rfl (by decide +kernel) ⟨Nat.le_of_ble_eq_true rfl, Nat.le_of_ble_eq_true rfl⟩) hK hP hD hS hA hpm73 (fun C73 => [(x, .inr (5, [.ref tx, .ref ho, .ref ca, .ref tr, .ref hi, .ref sl, .ref sv]))] ++ hw K ho hoa S ++ cw K ca caa C73) hpn73 0 0 rfl rfl rfl rfl hl.1 rfl (Nat.le_of_ble_eq_true rfl) (Nat.le_of_ble_eq_true rfl) (Nat.le_of_ble_eq_true rfl) dX5_role_73 (fun r73 C73 H locs hq73 hP hD hS => ?_)
    have hP : va_P K.1 vwCl ([(x, .inr (5, [.ref tx, .ref ho, .ref ca, .ref tr, .ref hi, .ref sl, .ref sv]))] ++ hw K ho hoa S ++ cw K ca caa C73) H := hP
    have hD : va_D A ([(x, .inr (5, [.ref tx, .ref ho, .ref ca, .ref tr, .ref hi, .ref sl, .ref sv]))] ++ hw K ho hoa S ++ cw K ca caa C73) := hD
    obtain ⟨rfl, hC73⟩ := hq73
    refine lv_pop hx hb dX5_role_76 rfl ?_
    refine lv_aload_n hx hb dX5_role_77 rfl (lv_at hl 0 rfl) ?_
    refine va_get (ci := 5) (v := .ref ca) (C := RX5) (T := TX5) (N := 7) hx hb hts hi5 hown hK hP 0 rfl rfl 2 (by decide) lk26 (fun _ h9 => h9) rfl dX5_role_78 ?_
    refine lv_iload_n hx hb dX5_role_81 rfl (lv_at hl 1 rfl) ?_
    rw [show r = nI (cN r) from hn2.1]
    have hPc := P_sub (ws' := cw K ca caa C73) hP [12, 13, 14, 15] rfl
    refine xr_V (As := [.int (nI (cN r))]) (rest := []) ⟨hx, hb, hml, hown, hts⟩ (c_X0_playerOf l K ca caa C73 (cN r) (by omega) R hC73.1 (by omega)) (cwV 1 hts gX5_role_X0_playerOf rfl rfl rfl (by decide +kernel) ⟨Nat.le_of_ble_eq_true rfl, Nat.le_of_ble_eq_true rfl⟩) hK hPc 0 0 rfl rfl rfl rfl hl.1 rfl (Nat.le_of_ble_eq_true rfl) (Nat.le_of_ble_eq_true rfl) (Nat.le_of_ble_eq_true rfl) dX5_role_82 ?_
    exact hend _ _ _ _ _ _ _ C73 hP hD hS (Nat.le_of_ble_eq_true rfl) (Nat.le_of_ble_eq_true rfl) (by refine ⟨by simp [kRole, hq2, hsk], ?_⟩; rw [if_pos hn2.2, hC73.2 _ hn2.2]; simp [rlF, hsk]) dX5_role_85
  by_cases e6_3 : w = (3 : Int32)
  · rw [show w = (3 : Int32) from e6_3]
    refine lv_tableIn (off := 80) (tgt := 86) hx hb dX5_role_6 (by decide) (by decide) (by decide) (by decide) ?_
    have hsk := e6_3
    refine lv_aload_n hx hb dX5_role_86 rfl (lv_at hl 0 rfl) ?_
    refine va_get (ci := 5) (v := .ref ho) (C := RX5) (T := TX5) (N := 7) hx hb hts hi5 hown hK hP 0 rfl rfl 1 (by decide) lk19 (fun _ h9 => h9) rfl dX5_role_87 ?_
    refine lv_iload_n hx hb dX5_role_90 rfl (lv_at hl 1 rfl) ?_
    rw [show r = nI (cN r) from hn2.1]
    have hPc := P_sub (ws' := hw K ho hoa S) hP [1, 2, 3, 4, 5, 6, 7, 8, 9, 10, 11] rfl
    refine xr_V (As := [.int (nI (cN r))]) (rest := []) ⟨hx, hb, hml, hown, hts⟩ (c_X2_postedFor l K ho hoa S (cN r) (by omega)) (cwV 1 hts gX5_role_X2_postedFor rfl rfl rfl (by decide +kernel) ⟨Nat.le_of_ble_eq_true rfl, Nat.le_of_ble_eq_true rfl⟩) hK hPc 0 2 rfl rfl rfl rfl hl.1 rfl (Nat.le_of_ble_eq_true rfl) (Nat.le_of_ble_eq_true rfl) (Nat.le_of_ble_eq_true rfl) dX5_role_91 ?_
    exact hend _ _ _ _ _ _ _ C hP hD hS (Nat.le_of_ble_eq_true rfl) (Nat.le_of_ble_eq_true rfl) (by refine ⟨by simp [kRole, hq2, hsk], ?_⟩; simp [rlF, hsk]) dX5_role_94
  by_cases e6_4 : w = (4 : Int32)
  · rw [show w = (4 : Int32) from e6_4]
    refine lv_tableIn (off := 89) (tgt := 95) hx hb dX5_role_6 (by decide) (by decide) (by decide) (by decide) ?_
    have hsk := e6_4
    refine lv_aload_n hx hb dX5_role_95 rfl (lv_at hl 0 rfl) ?_
    refine va_get (ci := 5) (v := .ref ho) (C := RX5) (T := TX5) (N := 7) hx hb hts hi5 hown hK hP 0 rfl rfl 1 (by decide) lk19 (fun _ h9 => h9) rfl dX5_role_96 ?_
    refine lv_iload_n hx hb dX5_role_99 rfl (lv_at hl 1 rfl) ?_
    rw [show r = nI (cN r) from hn2.1]
    have hPc := P_sub (ws' := hw K ho hoa S) hP [1, 2, 3, 4, 5, 6, 7, 8, 9, 10, 11] rfl
    refine xr_V (As := [.int (nI (cN r))]) (rest := []) ⟨hx, hb, hml, hown, hts⟩ (c_X2_candidateCount l K ho hoa S (cN r) (by omega) P hP0 (by omega)) (cwV 1 hts gX5_role_X2_candidateCount rfl rfl rfl (by decide +kernel) ⟨Nat.le_of_ble_eq_true rfl, Nat.le_of_ble_eq_true rfl⟩) hK hPc 0 2 rfl rfl rfl rfl hl.1 rfl (Nat.le_of_ble_eq_true rfl) (Nat.le_of_ble_eq_true rfl) (Nat.le_of_ble_eq_true rfl) dX5_role_100 ?_
    exact hend _ _ _ _ _ _ _ C hP hD hS (Nat.le_of_ble_eq_true rfl) (Nat.le_of_ble_eq_true rfl) (by refine ⟨by simp [kRole, hq2, hsk], ?_⟩; simp [rlF, hsk]) dX5_role_103
  have ne6_0 := lv_neT (a := 0) e6_0 rfl
  have ne6_1 := lv_neT (a := 1) e6_1 rfl
  have ne6_2 := lv_neT (a := 2) e6_2 rfl
  have ne6_3 := lv_neT (a := 3) e6_3 rfl
  have ne6_4 := lv_neT (a := 4) e6_4 rfl
  refine lv_tableOut (tgt := 104) hx hb dX5_role_6 (by omega) (by decide) ?_
  have hsd : ¬ inR w 0 4 := out_rng (n := 4) (by decide) (by
    intro k hk
    rcases (show k = 0 ∨ k = 1 ∨ k = 2 ∨ k = 3 ∨ k = 4 by omega) with rfl | rfl | rfl | rfl | rfl
    · exact e6_0
    · exact e6_1
    · exact e6_2
    · exact e6_3
    · exact e6_4)
  exact hthr _ _ _ _ 104 115 119 146 _ _ exA "no such number of a role" () hP hD hS (Nat.le_of_ble_eq_true rfl) (Nat.le_of_ble_eq_true rfl) (by (simp [kRole, hq2, hsd]; done)) (by decide) (by decide) (by decide +kernel) (hts (.classLink RX5 115 "java/lang/IllegalArgumentException") (by decide +kernel)) (hts (.initialized "java/lang/IllegalArgumentException") (by decide +kernel)) (fun w9 hw9 => hts w9 (List.mem_cons_of_mem _ (List.mem_append_left _ (List.mem_append_right _ hw9)))) (by decide +kernel) (by decide +kernel) dX5_role_104 dX5_role_107 (Or.inl ⟨dX5_role_108, dX5_role_110, dX5_role_113⟩) hl.1 (Nat.le_of_ble_eq_true rfl)

abbrev rm_X5_player : Room := { frames := 7, cells := 4, slots := 24, locals := 111 }
set_option maxHeartbeats 4000000 in
set_option maxRecDepth 100000 in
theorem c_X5_player (l : Launch) (hls : l.stackTraces = false) (K : KX) (x : Nat) (tx : Nat) (ho : Nat) (ca : Nat) (tr : Nat) (hi : Nat) (sl : Nat) (sv : Nat) (p : Int32) (w : Int32) (hoa : Nat → Nat) (S : HV) (caa : Nat → Nat) (C : HV) (R : Nat) (hR0 : S 10 0 = nI R) (hR0b : R ≤ 6) (P : Nat) (hP0 : S 11 0 = nI P) (hP0b : P ≤ 10) (sz : Nat) : vx_Met l yX5_player wsX5_player rm_X5_player (va_Pc [.ref x, .int p, .int w] (xPreS K ([(x, .inr (5, [.ref tx, .ref ho, .ref ca, .ref tr, .ref hi, .ref sl, .ref sv]))] ++ hw K ho hoa S ++ cw K ca caa C) sz)) (va_Qi (fun (r9 : Int32) (u9 : HV) => kPlayer S p w = 0 ∧ r9 = plF S R P p w) (fun u9 t => xPost K (va_A ([(x, .inr (5, [.ref tx, .ref ho, .ref ca, .ref tr, .ref hi, .ref sl, .ref sv]))] ++ hw K ho hoa S ++ cw K ca caa C) sz) ([(x, .inr (5, [.ref tx, .ref ho, .ref ca, .ref tr, .ref hi, .ref sl, .ref sv]))] ++ hw K ho hoa S ++ cw K ca caa u9) t) (va_A ([(x, .inr (5, [.ref tx, .ref ho, .ref ca, .ref tr, .ref hi, .ref sl, .ref sv]))] ++ hw K ho hoa S ++ cw K ca caa C) sz)) (xXC K (va_A ([(x, .inr (5, [.ref tx, .ref ho, .ref ca, .ref tr, .ref hi, .ref sl, .ref sv]))] ++ hw K ho hoa S ++ cw K ca caa C) sz) (fun (E : String) (_u8 : Unit) => (kPlayer S p w = 1 ∧ E = exI) ∨ (kPlayer S p w = 2 ∧ E = exA)) (fun _u8 => [(x, .inr (5, [.ref tx, .ref ho, .ref ca, .ref tr, .ref hi, .ref sl, .ref sv]))] ++ hw K ho hoa S ++ cw K ca caa C)) 4 24 (va_A ([(x, .inr (5, [.ref tx, .ref ho, .ref ca, .ref tr, .ref hi, .ref sl, .ref sv]))] ++ hw K ho hoa S ++ cw K ca caa C) sz) := by
  refine xt_starti (cc := cX5_player) (maxL := 3) hls (by decide) rfl rfl (Nat.le_of_ble_eq_true rfl) ⟨Nat.le_of_ble_eq_true rfl, Nat.le_of_ble_eq_true rfl, Nat.le_of_ble_eq_true rfl, Nat.le_of_ble_eq_true rfl⟩ ?_
  intro p9 e9 s9 m9 below9 meth9 c9 H locs ls A av9 Q9 hx hb hlocks hml hname hts hown hK hP hD hS hA hsz hZ hend hthr hout hl
  have hown : s9.vm.findClass RX5 = some m9.cls := hown
  have hl : lv_has ls 3 [(0, .ref x), (1, .int p), (2, .int w)] := hl
  have hi5 : ∀ w ∈ u_ws RX5 TX5 7, w ∈ wsX5_player := by decide +kernel
  have lk19 := hts (.fieldLink RX5 19 "StandIns" "house" "LStandIns$House;") (by decide +kernel)
  have lk26 := hts (.fieldLink RX5 26 "StandIns" "casting" "LStandIns$Casting;") (by decide +kernel)
  have hfl : frN S P < 1024 := Nat.lt_of_lt_of_le (frN_lt S P) (pw_le hP0b)
  refine lv_aload_n hx hb dX5_player_0 rfl (lv_at hl 0 rfl) ?_
  refine lv_iload_n hx hb dX5_player_1 rfl (lv_at hl 1 rfl) ?_
  have hpm2 : ([(x, .inr (5, [.ref tx, .ref ho, .ref ca, .ref tr, .ref hi, .ref sl, .ref sv]))] ++ hw K ho hoa S ++ cw K ca caa C : va_W).Perm (([(x, .inr (5, [.ref tx, .ref ho, .ref ca, .ref tr, .ref hi, .ref sl, .ref sv]))] ++ hw K ho hoa S : va_W) ++ (cw K ca caa C : va_W)) := perm_split ([[(x, .inr (5, [.ref tx, .ref ho, .ref ca, .ref tr, .ref hi, .ref sl, .ref sv]))], hw K ho hoa S, cw K ca caa C] : List va_W) 3 rfl [0, 1] [2] (by decide)
  refine xt_Vv (As := [.int p]) (rest := []) (wc := [(x, .inr (5, [.ref tx, .ref ho, .ref ca, .ref tr, .ref hi, .ref sl, .ref sv]))] ++ hw K ho hoa S) (wr := cw K ca caa C) ⟨hx, hb, hml, hown, hts⟩ (c_X5_needPlayer l hls K x tx ho ca tr hi sl sv p hoa S H.size) (cwV 1 hts gX5_player_X5_needPlayer rfl rfl rfl (by decide +kernel) ⟨Nat.le_of_ble_eq_true rfl, Nat.le_of_ble_eq_true rfl⟩) hK hP hD hS hZ hA hpm2 0 5 rfl rfl rfl rfl hl.1 rfl (Nat.le_of_ble_eq_true rfl) (Nat.le_of_ble_eq_true rfl) (Nat.le_of_ble_eq_true rfl) dX5_player_2 (fun E9 ce9 q9 H locs hpx2 hP hD hS hce9 hcv9 hcl9 => hout _ _ _ _ _ _ _ E9 ce9 q9 () hP hD hS (Nat.le_of_ble_eq_true rfl) (Nat.le_of_ble_eq_true rfl) (by obtain ⟨hE9, hn9⟩ := hpx2; (simp [kPlayer, hE9, hn9, ]; done)) hce9 hcv9 hcl9) (fun H locs hq2 hP hD hS => ?_)
  have hP : va_P K.1 vwCl ([(x, .inr (5, [.ref tx, .ref ho, .ref ca, .ref tr, .ref hi, .ref sl, .ref sv]))] ++ hw K ho hoa S ++ cw K ca caa C) H := hP
  have hD : va_D A ([(x, .inr (5, [.ref tx, .ref ho, .ref ca, .ref tr, .ref hi, .ref sl, .ref sv]))] ++ hw K ho hoa S ++ cw K ca caa C) := hD
  have hn2 := idx_cN hP0 (by omega) hq2
  refine lv_iload_n hx hb dX5_player_5 rfl (lv_at hl 2 rfl) ?_
  by_cases e6_0 : w = (0 : Int32)
  · rw [show w = (0 : Int32) from e6_0]
    refine lv_tableIn (off := 38) (tgt := 44) hx hb dX5_player_6 (by decide) (by decide) (by decide) (by decide) ?_
    have hsk := e6_0
    refine lv_aload_n hx hb dX5_player_44 rfl (lv_at hl 0 rfl) ?_
    refine va_get (ci := 5) (v := .ref ho) (C := RX5) (T := TX5) (N := 7) hx hb hts hi5 hown hK hP 0 rfl rfl 1 (by decide) lk19 (fun _ h9 => h9) rfl dX5_player_45 ?_
    refine lv_iload_n hx hb dX5_player_48 rfl (lv_at hl 1 rfl) ?_
    rw [show p = nI (cN p) from hn2.1]
    have hPc := P_sub (ws' := hw K ho hoa S) hP [1, 2, 3, 4, 5, 6, 7, 8, 9, 10, 11] rfl
    refine xr_V (As := [.int (nI (cN p))]) (rest := []) ⟨hx, hb, hml, hown, hts⟩ (c_X2_payOf l K ho hoa S (cN p) (by omega)) (cwV 1 hts gX5_player_X2_payOf rfl rfl rfl (by decide +kernel) ⟨Nat.le_of_ble_eq_true rfl, Nat.le_of_ble_eq_true rfl⟩) hK hPc 0 2 rfl rfl rfl rfl hl.1 rfl (Nat.le_of_ble_eq_true rfl) (Nat.le_of_ble_eq_true rfl) (Nat.le_of_ble_eq_true rfl) dX5_player_49 ?_
    exact hend _ _ _ _ _ _ _ C hP hD hS (Nat.le_of_ble_eq_true rfl) (Nat.le_of_ble_eq_true rfl) (by refine ⟨by simp [kPlayer, hq2, hsk], ?_⟩; first | (simp [plF, hsk]; done) | (simp [plF, hsk, bI, c_79]; done)) dX5_player_52
  by_cases e6_1 : w = (1 : Int32)
  · rw [show w = (1 : Int32) from e6_1]
    refine lv_tableIn (off := 47) (tgt := 53) hx hb dX5_player_6 (by decide) (by decide) (by decide) (by decide) ?_
    have hsk := e6_1
    refine lv_aload_n hx hb dX5_player_53 rfl (lv_at hl 0 rfl) ?_
    refine va_get (ci := 5) (v := .ref ho) (C := RX5) (T := TX5) (N := 7) hx hb hts hi5 hown hK hP 0 rfl rfl 1 (by decide) lk19 (fun _ h9 => h9) rfl dX5_player_54 ?_
    refine lv_iload_n hx hb dX5_player_57 rfl (lv_at hl 1 rfl) ?_
    rw [show p = nI (cN p) from hn2.1]
    have hPc := P_sub (ws' := hw K ho hoa S) hP [1, 2, 3, 4, 5, 6, 7, 8, 9, 10, 11] rfl
    refine xr_V (As := [.int (nI (cN p))]) (rest := []) ⟨hx, hb, hml, hown, hts⟩ (c_X2_rowOf l K ho hoa S (cN p) (by omega)) (cwV 1 hts gX5_player_X2_rowOf rfl rfl rfl (by decide +kernel) ⟨Nat.le_of_ble_eq_true rfl, Nat.le_of_ble_eq_true rfl⟩) hK hPc 0 2 rfl rfl rfl rfl hl.1 rfl (Nat.le_of_ble_eq_true rfl) (Nat.le_of_ble_eq_true rfl) (Nat.le_of_ble_eq_true rfl) dX5_player_58 ?_
    exact hend _ _ _ _ _ _ _ C hP hD hS (Nat.le_of_ble_eq_true rfl) (Nat.le_of_ble_eq_true rfl) (by refine ⟨by simp [kPlayer, hq2, hsk], ?_⟩; first | (simp [plF, hsk]; done) | (simp [plF, hsk, bI, c_79]; done)) dX5_player_61
  by_cases e6_2 : w = (2 : Int32)
  · rw [show w = (2 : Int32) from e6_2]
    refine lv_tableIn (off := 56) (tgt := 62) hx hb dX5_player_6 (by decide) (by decide) (by decide) (by decide) ?_
    have hsk := e6_2
    refine lv_aload_n hx hb dX5_player_62 rfl (lv_at hl 0 rfl) ?_
    refine va_get (ci := 5) (v := .ref ho) (C := RX5) (T := TX5) (N := 7) hx hb hts hi5 hown hK hP 0 rfl rfl 1 (by decide) lk19 (fun _ h9 => h9) rfl dX5_player_63 ?_
    refine lv_iload_n hx hb dX5_player_66 rfl (lv_at hl 1 rfl) ?_
    rw [show p = nI (cN p) from hn2.1]
    have hPc := P_sub (ws' := hw K ho hoa S) hP [1, 2, 3, 4, 5, 6, 7, 8, 9, 10, 11] rfl
    refine xr_V (As := [.int (nI (cN p))]) (rest := []) ⟨hx, hb, hml, hown, hts⟩ (c_X2_daysStillAway l K ho hoa S (cN p) (by omega)) (cwV 1 hts gX5_player_X2_daysStillAway rfl rfl rfl (by decide +kernel) ⟨Nat.le_of_ble_eq_true rfl, Nat.le_of_ble_eq_true rfl⟩) hK hPc 0 2 rfl rfl rfl rfl hl.1 rfl (Nat.le_of_ble_eq_true rfl) (Nat.le_of_ble_eq_true rfl) (Nat.le_of_ble_eq_true rfl) dX5_player_67 ?_
    exact hend _ _ _ _ _ _ _ C hP hD hS (Nat.le_of_ble_eq_true rfl) (Nat.le_of_ble_eq_true rfl) (by refine ⟨by simp [kPlayer, hq2, hsk], ?_⟩; first | (simp [plF, hsk]; done) | (simp [plF, hsk, bI, c_79]; done)) dX5_player_70
  by_cases e6_3 : w = (3 : Int32)
  · rw [show w = (3 : Int32) from e6_3]
    refine lv_tableIn (off := 65) (tgt := 71) hx hb dX5_player_6 (by decide) (by decide) (by decide) (by decide) ?_
    have hsk := e6_3
    refine lv_aload_n hx hb dX5_player_71 rfl (lv_at hl 0 rfl) ?_
    refine va_get (ci := 5) (v := .ref ho) (C := RX5) (T := TX5) (N := 7) hx hb hts hi5 hown hK hP 0 rfl rfl 1 (by decide) lk19 (fun _ h9 => h9) rfl dX5_player_72 ?_
    refine lv_iload_n hx hb dX5_player_75 rfl (lv_at hl 1 rfl) ?_
    rw [show p = nI (cN p) from hn2.1]
    have hPc := P_sub (ws' := hw K ho hoa S) hP [1, 2, 3, 4, 5, 6, 7, 8, 9, 10, 11] rfl
    refine xr_V (As := [.int (nI (cN p))]) (rest := []) ⟨hx, hb, hml, hown, hts⟩ (c_X2_isFree l K ho hoa S (cN p) (by omega)) (cwV 1 hts gX5_player_X2_isFree rfl rfl rfl (by decide +kernel) ⟨Nat.le_of_ble_eq_true rfl, Nat.le_of_ble_eq_true rfl⟩) hK hPc 0 2 rfl rfl rfl rfl hl.1 rfl (Nat.le_of_ble_eq_true rfl) (Nat.le_of_ble_eq_true rfl) (Nat.le_of_ble_eq_true rfl) dX5_player_76 ?_
    refine xb_if_eq (tgt := 86) hx hb dX5_player_79 (by decide) (fun c_79 => ?_) (fun c_79 => ?_)
    · skip
      refine lv_iconst (v := (0 : Int32)) hx hb dX5_player_86 (by decide) ?_
      exact hend _ _ _ _ _ _ _ C hP hD hS (Nat.le_of_ble_eq_true rfl) (Nat.le_of_ble_eq_true rfl) (by refine ⟨by simp [kPlayer, hq2, hsk], ?_⟩; first | (simp [plF, hsk]; done) | (simp [plF, hsk, bI, c_79]; done)) dX5_player_87
    · skip
      refine lv_iconst (v := (1 : Int32)) hx hb dX5_player_82 (by decide) ?_
      refine lv_goto (tgt := 87) hx hb dX5_player_83 (by decide) ?_
      exact hend _ _ _ _ _ _ _ C hP hD hS (Nat.le_of_ble_eq_true rfl) (Nat.le_of_ble_eq_true rfl) (by refine ⟨by simp [kPlayer, hq2, hsk], ?_⟩; first | (simp [plF, hsk]; done) | (simp [plF, hsk, bI, c_79]; done)) dX5_player_87
  by_cases e6_4 : w = (4 : Int32)
  · rw [show w = (4 : Int32) from e6_4]
    refine lv_tableIn (off := 82) (tgt := 88) hx hb dX5_player_6 (by decide) (by decide) (by decide) (by decide) ?_
    have hsk := e6_4
    refine lv_aload_n hx hb dX5_player_88 rfl (lv_at hl 0 rfl) ?_
    refine va_get (ci := 5) (v := .ref ho) (C := RX5) (T := TX5) (N := 7) hx hb hts hi5 hown hK hP 0 rfl rfl 1 (by decide) lk19 (fun _ h9 => h9) rfl dX5_player_89 ?_
    refine lv_iload_n hx hb dX5_player_92 rfl (lv_at hl 1 rfl) ?_
    rw [show p = nI (cN p) from hn2.1]
    have hPc := P_sub (ws' := hw K ho hoa S) hP [1, 2, 3, 4, 5, 6, 7, 8, 9, 10, 11] rfl
    refine xr_V (As := [.int (nI (cN p))]) (rest := []) ⟨hx, hb, hml, hown, hts⟩ (c_X2_showsOf l K ho hoa S (cN p) (by omega)) (cwV 1 hts gX5_player_X2_showsOf rfl rfl rfl (by decide +kernel) ⟨Nat.le_of_ble_eq_true rfl, Nat.le_of_ble_eq_true rfl⟩) hK hPc 0 2 rfl rfl rfl rfl hl.1 rfl (Nat.le_of_ble_eq_true rfl) (Nat.le_of_ble_eq_true rfl) (Nat.le_of_ble_eq_true rfl) dX5_player_93 ?_
    exact hend _ _ _ _ _ _ _ C hP hD hS (Nat.le_of_ble_eq_true rfl) (Nat.le_of_ble_eq_true rfl) (by refine ⟨by simp [kPlayer, hq2, hsk], ?_⟩; first | (simp [plF, hsk]; done) | (simp [plF, hsk, bI, c_79]; done)) dX5_player_96
  by_cases e6_5 : w = (5 : Int32)
  · rw [show w = (5 : Int32) from e6_5]
    refine lv_tableIn (off := 91) (tgt := 97) hx hb dX5_player_6 (by decide) (by decide) (by decide) (by decide) ?_
    have hsk := e6_5
    refine lv_aload_n hx hb dX5_player_97 rfl (lv_at hl 0 rfl) ?_
    refine va_get (ci := 5) (v := .ref ca) (C := RX5) (T := TX5) (N := 7) hx hb hts hi5 hown hK hP 0 rfl rfl 2 (by decide) lk26 (fun _ h9 => h9) rfl dX5_player_98 ?_
    refine lv_aload_n hx hb dX5_player_101 rfl (lv_at hl 0 rfl) ?_
    refine va_get (ci := 5) (v := .ref ho) (C := RX5) (T := TX5) (N := 7) hx hb hts hi5 hown hK hP 0 rfl rfl 1 (by decide) lk19 (fun _ h9 => h9) rfl dX5_player_102 ?_
    refine lv_aload_n hx hb dX5_player_105 rfl (lv_at hl 0 rfl) ?_
    refine va_get (ci := 5) (v := .ref ho) (C := RX5) (T := TX5) (N := 7) hx hb hts hi5 hown hK hP 0 rfl rfl 1 (by decide) lk19 (fun _ h9 => h9) rfl dX5_player_106 ?_
    have hPc := P_sub (ws' := hw K ho hoa S) hP [1, 2, 3, 4, 5, 6, 7, 8, 9, 10, 11] rfl
    refine xr_V (As := []) (rest := [.ref ho, .ref ca]) ⟨hx, hb, hml, hown, hts⟩ (c_X2_freePlayers l K ho hoa S P hP0 (by omega)) (cwV 0 hts gX5_player_X2_freePlayers rfl rfl rfl (by decide +kernel) ⟨Nat.le_of_ble_eq_true rfl, Nat.le_of_ble_eq_true rfl⟩) hK hPc 0 2 rfl rfl rfl rfl hl.1 rfl (Nat.le_of_ble_eq_true rfl) (Nat.le_of_ble_eq_true rfl) (Nat.le_of_ble_eq_true rfl) dX5_player_109 ?_
    have hpm112 : ([(x, .inr (5, [.ref tx, .ref ho, .ref ca, .ref tr, .ref hi, .ref sl, .ref sv]))] ++ hw K ho hoa S ++ cw K ca caa C : va_W).Perm ((cw K ca caa C ++ hw K ho hoa S : va_W) ++ ([(x, .inr (5, [.ref tx, .ref ho, .ref ca, .ref tr, .ref hi, .ref sl, .ref sv]))] : va_W)) := perm_split ([[(x, .inr (5, [.ref tx, .ref ho, .ref ca, .ref tr, .ref hi, .ref sl, .ref sv]))], hw K ho hoa S, cw K ca caa C] : List va_W) 3 rfl [2, 1] [0] (by decide)
    have hpn112 : ∀ (C112 : HV), ((cw K ca caa C112 ++ hw K ho hoa S : va_W) ++ ([(x, .inr (5, [.ref tx, .ref ho, .ref ca, .ref tr, .ref hi, .ref sl, .ref sv]))] : va_W)).Perm ([(x, .inr (5, [.ref tx, .ref ho, .ref ca, .ref tr, .ref hi, .ref sl, .ref sv]))] ++ hw K ho hoa S ++ cw K ca caa C112) := fun C112 => (perm_split ([[(x, .inr (5, [.ref tx, .ref ho, .ref ca, .ref tr, .ref hi, .ref sl, .ref sv]))], hw K ho hoa S, cw K ca caa C112] : List va_W) 3 rfl [2, 1] [0] (by decide)).symm
    refine pw_Vi (As := [.ref ho, .int (nI (frN S P))]) (rest := []) (wc := cw K ca caa C ++ hw K ho hoa S) (wr := [(x, .inr (5, [.ref tx, .ref ho, .ref ca, .ref tr, .ref hi, .ref sl, .ref sv]))]) ⟨hx, hb, hml, hown, hts⟩ (c_X0_seek l K ca caa C ho hoa S (frN S P) (by omega) R hR0 (by omega) P hP0 (by omega) H.size) (cwV 2 hts gX5_player_X0_seek rfl rfl rfl (by decide +kernel) ⟨Nat.le_of_ble_eq_true rfl, Nat.le_of_ble_eq_true rfl⟩) hK hP hD hS hA hpm112 (fun C112 => [(x, .inr (5, [.ref tx, .ref ho, .ref ca, .ref tr, .ref hi, .ref sl, .ref sv]))] ++ hw K ho hoa S ++ cw K ca caa C112) hpn112 0 0 rfl rfl rfl rfl hl.1 rfl (Nat.le_of_ble_eq_true rfl) (Nat.le_of_ble_eq_true rfl) (Nat.le_of_ble_eq_true rfl) dX5_player_112 (fun r112 C112 H locs hq112 hP hD hS => ?_)
    have hP : va_P K.1 vwCl ([(x, .inr (5, [.ref tx, .ref ho, .ref ca, .ref tr, .ref hi, .ref sl, .ref sv]))] ++ hw K ho hoa S ++ cw K ca caa C112) H := hP
    have hD : va_D A ([(x, .inr (5, [.ref tx, .ref ho, .ref ca, .ref tr, .ref hi, .ref sl, .ref sv]))] ++ hw K ho hoa S ++ cw K ca caa C112) := hD
    obtain ⟨rfl, hC112⟩ := hq112
    refine lv_pop hx hb dX5_player_115 rfl ?_
    refine lv_aload_n hx hb dX5_player_116 rfl (lv_at hl 0 rfl) ?_
    refine va_get (ci := 5) (v := .ref ca) (C := RX5) (T := TX5) (N := 7) hx hb hts hi5 hown hK hP 0 rfl rfl 2 (by decide) lk26 (fun _ h9 => h9) rfl dX5_player_117 ?_
    refine lv_iload_n hx hb dX5_player_120 rfl (lv_at hl 1 rfl) ?_
    have hPc := P_sub (ws' := cw K ca caa C112) hP [12, 13, 14, 15] rfl
    refine xr_V (As := [.int p]) (rest := []) ⟨hx, hb, hml, hown, hts⟩ (c_X0_roleOf l K ca caa C112 p R hC112.1 (by omega)) (cwV 1 hts gX5_player_X0_roleOf rfl rfl rfl (by decide +kernel) ⟨Nat.le_of_ble_eq_true rfl, Nat.le_of_ble_eq_true rfl⟩) hK hPc 0 0 rfl rfl rfl rfl hl.1 rfl (Nat.le_of_ble_eq_true rfl) (Nat.le_of_ble_eq_true rfl) (Nat.le_of_ble_eq_true rfl) dX5_player_121 ?_
    exact hend _ _ _ _ _ _ _ C112 hP hD hS (Nat.le_of_ble_eq_true rfl) (Nat.le_of_ble_eq_true rfl) (by refine ⟨by simp [kPlayer, hq2, hsk], ?_⟩; rw [fstF_cong R 0 (fun r _ hr => by rw [hC112.2 r (by omega)])]; simp [plF, hsk]) dX5_player_124
  have ne6_0 := lv_neT (a := 0) e6_0 rfl
  have ne6_1 := lv_neT (a := 1) e6_1 rfl
  have ne6_2 := lv_neT (a := 2) e6_2 rfl
  have ne6_3 := lv_neT (a := 3) e6_3 rfl
  have ne6_4 := lv_neT (a := 4) e6_4 rfl
  have ne6_5 := lv_neT (a := 5) e6_5 rfl
  refine lv_tableOut (tgt := 125) hx hb dX5_player_6 (by omega) (by decide) ?_
  have hsd : ¬ inR w 0 5 := out_rng (n := 5) (by decide) (by
    intro k hk
    rcases (show k = 0 ∨ k = 1 ∨ k = 2 ∨ k = 3 ∨ k = 4 ∨ k = 5 by omega) with rfl | rfl | rfl | rfl | rfl | rfl
    · exact e6_0
    · exact e6_1
    · exact e6_2
    · exact e6_3
    · exact e6_4
    · exact e6_5)
  exact hthr _ _ _ _ 125 115 119 170 _ _ exA "no such number of a player" () hP hD hS (Nat.le_of_ble_eq_true rfl) (Nat.le_of_ble_eq_true rfl) (by (simp [kPlayer, hq2, hsd]; done)) (by decide) (by decide) (by decide +kernel) (hts (.classLink RX5 115 "java/lang/IllegalArgumentException") (by decide +kernel)) (hts (.initialized "java/lang/IllegalArgumentException") (by decide +kernel)) (fun w9 hw9 => hts w9 (List.mem_cons_of_mem _ (List.mem_append_left _ (List.mem_append_right _ hw9)))) (by decide +kernel) (by decide +kernel) dX5_player_125 dX5_player_128 (Or.inl ⟨dX5_player_129, dX5_player_131, dX5_player_134⟩) hl.1 (Nat.le_of_ble_eq_true rfl)

abbrev rm_X5_both : Room := { frames := 7, cells := 4, slots := 24, locals := 111 }
set_option maxHeartbeats 4000000 in
set_option maxRecDepth 100000 in
theorem c_X5_both (l : Launch) (hls : l.stackTraces = false) (K : KX) (x : Nat) (tx : Nat) (ho : Nat) (ca : Nat) (tr : Nat) (hi : Nat) (sl : Nat) (sv : Nat) (p : Int32) (r : Int32) (w : Int32) (hoa : Nat → Nat) (S : HV) (R : Nat) (hR0 : S 10 0 = nI R) (hR0b : R ≤ 6) (P : Nat) (hP0 : S 11 0 = nI P) (hP0b : P ≤ 10) (sz : Nat) : vx_Met l yX5_both wsX5_both rm_X5_both (va_Pc [.ref x, .int p, .int r, .int w] (xPreS K ([(x, .inr (5, [.ref tx, .ref ho, .ref ca, .ref tr, .ref hi, .ref sl, .ref sv]))] ++ hw K ho hoa S) sz)) (va_Qi (fun (r9 : Int32) (_u : Unit) => kBoth S p r w = 0 ∧ r9 = boF S p r w) (fun _u t => xPost K (va_A ([(x, .inr (5, [.ref tx, .ref ho, .ref ca, .ref tr, .ref hi, .ref sl, .ref sv]))] ++ hw K ho hoa S) sz) ([(x, .inr (5, [.ref tx, .ref ho, .ref ca, .ref tr, .ref hi, .ref sl, .ref sv]))] ++ hw K ho hoa S) t) (va_A ([(x, .inr (5, [.ref tx, .ref ho, .ref ca, .ref tr, .ref hi, .ref sl, .ref sv]))] ++ hw K ho hoa S) sz)) (xXC K (va_A ([(x, .inr (5, [.ref tx, .ref ho, .ref ca, .ref tr, .ref hi, .ref sl, .ref sv]))] ++ hw K ho hoa S) sz) (fun (E : String) (_u8 : Unit) => (kBoth S p r w = 1 ∧ E = exI) ∨ (kBoth S p r w = 2 ∧ E = exA)) (fun _u8 => [(x, .inr (5, [.ref tx, .ref ho, .ref ca, .ref tr, .ref hi, .ref sl, .ref sv]))] ++ hw K ho hoa S)) 4 24 (va_A ([(x, .inr (5, [.ref tx, .ref ho, .ref ca, .ref tr, .ref hi, .ref sl, .ref sv]))] ++ hw K ho hoa S) sz) := by
  refine xt_starti (cc := cX5_both) (maxL := 4) hls (by decide) rfl rfl (Nat.le_of_ble_eq_true rfl) ⟨Nat.le_of_ble_eq_true rfl, Nat.le_of_ble_eq_true rfl, Nat.le_of_ble_eq_true rfl, Nat.le_of_ble_eq_true rfl⟩ ?_
  intro p9 e9 s9 m9 below9 meth9 c9 H locs ls A av9 Q9 hx hb hlocks hml hname hts hown hK hP hD hS hA hsz hZ hend hthr hout hl
  have hown : s9.vm.findClass RX5 = some m9.cls := hown
  have hl : lv_has ls 4 [(0, .ref x), (1, .int p), (2, .int r), (3, .int w)] := hl
  have hi5 : ∀ w ∈ u_ws RX5 TX5 7, w ∈ wsX5_both := by decide +kernel
  have lk19 := hts (.fieldLink RX5 19 "StandIns" "house" "LStandIns$House;") (by decide +kernel)
  refine lv_aload_n hx hb dX5_both_0 rfl (lv_at hl 0 rfl) ?_
  refine lv_iload_n hx hb dX5_both_1 rfl (lv_at hl 1 rfl) ?_
  have hpm2 : ([(x, .inr (5, [.ref tx, .ref ho, .ref ca, .ref tr, .ref hi, .ref sl, .ref sv]))] ++ hw K ho hoa S : va_W).Perm (([(x, .inr (5, [.ref tx, .ref ho, .ref ca, .ref tr, .ref hi, .ref sl, .ref sv]))] ++ hw K ho hoa S : va_W) ++ (([] : va_W) : va_W)) := perm_split ([[(x, .inr (5, [.ref tx, .ref ho, .ref ca, .ref tr, .ref hi, .ref sl, .ref sv]))], hw K ho hoa S] : List va_W) 2 rfl [0, 1] [] (by decide)
  refine xt_Vv (As := [.int p]) (rest := []) (wc := [(x, .inr (5, [.ref tx, .ref ho, .ref ca, .ref tr, .ref hi, .ref sl, .ref sv]))] ++ hw K ho hoa S) (wr := ([] : va_W)) ⟨hx, hb, hml, hown, hts⟩ (c_X5_needPlayer l hls K x tx ho ca tr hi sl sv p hoa S H.size) (cwV 1 hts gX5_both_X5_needPlayer rfl rfl rfl (by decide +kernel) ⟨Nat.le_of_ble_eq_true rfl, Nat.le_of_ble_eq_true rfl⟩) hK hP hD hS hZ hA hpm2 0 5 rfl rfl rfl rfl hl.1 rfl (Nat.le_of_ble_eq_true rfl) (Nat.le_of_ble_eq_true rfl) (Nat.le_of_ble_eq_true rfl) dX5_both_2 (fun E9 ce9 q9 H locs hpx2 hP hD hS hce9 hcv9 hcl9 => hout _ _ _ _ _ _ _ E9 ce9 q9 () hP hD hS (Nat.le_of_ble_eq_true rfl) (Nat.le_of_ble_eq_true rfl) (by obtain ⟨hE9, hn9⟩ := hpx2; (simp [kBoth, hE9, hn9, ]; done)) hce9 hcv9 hcl9) (fun H locs hq2 hP hD hS => ?_)
  have hP : va_P K.1 vwCl ([(x, .inr (5, [.ref tx, .ref ho, .ref ca, .ref tr, .ref hi, .ref sl, .ref sv]))] ++ hw K ho hoa S) H := hP
  have hD : va_D A ([(x, .inr (5, [.ref tx, .ref ho, .ref ca, .ref tr, .ref hi, .ref sl, .ref sv]))] ++ hw K ho hoa S) := hD
  have hn2 := idx_cN hP0 (by omega) hq2
  refine lv_aload_n hx hb dX5_both_5 rfl (lv_at hl 0 rfl) ?_
  refine lv_iload_n hx hb dX5_both_6 rfl (lv_at hl 2 rfl) ?_
  have hpm7 : ([(x, .inr (5, [.ref tx, .ref ho, .ref ca, .ref tr, .ref hi, .ref sl, .ref sv]))] ++ hw K ho hoa S : va_W).Perm (([(x, .inr (5, [.ref tx, .ref ho, .ref ca, .ref tr, .ref hi, .ref sl, .ref sv]))] ++ hw K ho hoa S : va_W) ++ (([] : va_W) : va_W)) := perm_split ([[(x, .inr (5, [.ref tx, .ref ho, .ref ca, .ref tr, .ref hi, .ref sl, .ref sv]))], hw K ho hoa S] : List va_W) 2 rfl [0, 1] [] (by decide)
  refine xt_Vv (As := [.int r]) (rest := []) (wc := [(x, .inr (5, [.ref tx, .ref ho, .ref ca, .ref tr, .ref hi, .ref sl, .ref sv]))] ++ hw K ho hoa S) (wr := ([] : va_W)) ⟨hx, hb, hml, hown, hts⟩ (c_X5_needRole l hls K x tx ho ca tr hi sl sv r hoa S H.size) (cwV 1 hts gX5_both_X5_needRole rfl rfl rfl (by decide +kernel) ⟨Nat.le_of_ble_eq_true rfl, Nat.le_of_ble_eq_true rfl⟩) hK hP hD hS hZ hA hpm7 0 5 rfl rfl rfl rfl hl.1 rfl (Nat.le_of_ble_eq_true rfl) (Nat.le_of_ble_eq_true rfl) (Nat.le_of_ble_eq_true rfl) dX5_both_7 (fun E9 ce9 q9 H locs hpx7 hP hD hS hce9 hcv9 hcl9 => hout _ _ _ _ _ _ _ E9 ce9 q9 () hP hD hS (Nat.le_of_ble_eq_true rfl) (Nat.le_of_ble_eq_true rfl) (by obtain ⟨hE9, hn9⟩ := hpx7; (simp [kBoth, hE9, hn9, hq2]; done)) hce9 hcv9 hcl9) (fun H locs hq7 hP hD hS => ?_)
  have hP : va_P K.1 vwCl ([(x, .inr (5, [.ref tx, .ref ho, .ref ca, .ref tr, .ref hi, .ref sl, .ref sv]))] ++ hw K ho hoa S) H := hP
  have hD : va_D A ([(x, .inr (5, [.ref tx, .ref ho, .ref ca, .ref tr, .ref hi, .ref sl, .ref sv]))] ++ hw K ho hoa S) := hD
  have hn7 := idx_cN hR0 (by omega) hq7
  refine lv_iload_n hx hb dX5_both_10 rfl (lv_at hl 3 rfl) ?_
  by_cases e11_0 : w = (0 : Int32)
  · rw [show w = (0 : Int32) from e11_0]
    refine lv_tableIn (off := 25) (tgt := 36) hx hb dX5_both_11 (by decide) (by decide) (by decide) (by decide) ?_
    have hsk := e11_0
    refine lv_aload_n hx hb dX5_both_36 rfl (lv_at hl 0 rfl) ?_
    refine va_get (ci := 5) (v := .ref ho) (C := RX5) (T := TX5) (N := 7) hx hb hts hi5 hown hK hP 0 rfl rfl 1 (by decide) lk19 (fun _ h9 => h9) rfl dX5_both_37 ?_
    refine lv_iload_n hx hb dX5_both_40 rfl (lv_at hl 1 rfl) ?_
    refine lv_iload_n hx hb dX5_both_41 rfl (lv_at hl 2 rfl) ?_
    rw [show p = nI (cN p) from hn2.1]
    rw [show r = nI (cN r) from hn7.1]
    have hPc := P_sub (ws' := hw K ho hoa S) hP [1, 2, 3, 4, 5, 6, 7, 8, 9, 10, 11] rfl
    refine xr_V (As := [.int (nI (cN p)), .int (nI (cN r))]) (rest := []) ⟨hx, hb, hml, hown, hts⟩ (c_X2_degreeOf l K ho hoa S (cN p) (by omega) (cN r) (by omega)) (cwV 2 hts gX5_both_X2_degreeOf rfl rfl rfl (by decide +kernel) ⟨Nat.le_of_ble_eq_true rfl, Nat.le_of_ble_eq_true rfl⟩) hK hPc 0 2 rfl rfl rfl rfl hl.1 rfl (Nat.le_of_ble_eq_true rfl) (Nat.le_of_ble_eq_true rfl) (Nat.le_of_ble_eq_true rfl) dX5_both_42 ?_
    exact hend _ _ _ _ _ _ _ () hP hD hS (Nat.le_of_ble_eq_true rfl) (Nat.le_of_ble_eq_true rfl) (by refine ⟨by simp [kBoth, hq2, hq7, hsk], ?_⟩; simp [boF, hsk]) dX5_both_45
  by_cases e11_1 : w = (1 : Int32)
  · rw [show w = (1 : Int32) from e11_1]
    refine lv_tableIn (off := 35) (tgt := 46) hx hb dX5_both_11 (by decide) (by decide) (by decide) (by decide) ?_
    have hsk := e11_1
    refine lv_aload_n hx hb dX5_both_46 rfl (lv_at hl 0 rfl) ?_
    refine va_get (ci := 5) (v := .ref ho) (C := RX5) (T := TX5) (N := 7) hx hb hts hi5 hown hK hP 0 rfl rfl 1 (by decide) lk19 (fun _ h9 => h9) rfl dX5_both_47 ?_
    refine lv_iload_n hx hb dX5_both_50 rfl (lv_at hl 1 rfl) ?_
    refine lv_iload_n hx hb dX5_both_51 rfl (lv_at hl 2 rfl) ?_
    rw [show p = nI (cN p) from hn2.1]
    rw [show r = nI (cN r) from hn7.1]
    have hPc := P_sub (ws' := hw K ho hoa S) hP [1, 2, 3, 4, 5, 6, 7, 8, 9, 10, 11] rfl
    refine xr_V (As := [.int (nI (cN p)), .int (nI (cN r))]) (rest := []) ⟨hx, hb, hml, hown, hts⟩ (c_X2_timesOf l K ho hoa S (cN p) (by omega) (cN r) (by omega)) (cwV 2 hts gX5_both_X2_timesOf rfl rfl rfl (by decide +kernel) ⟨Nat.le_of_ble_eq_true rfl, Nat.le_of_ble_eq_true rfl⟩) hK hPc 0 2 rfl rfl rfl rfl hl.1 rfl (Nat.le_of_ble_eq_true rfl) (Nat.le_of_ble_eq_true rfl) (Nat.le_of_ble_eq_true rfl) dX5_both_52 ?_
    exact hend _ _ _ _ _ _ _ () hP hD hS (Nat.le_of_ble_eq_true rfl) (Nat.le_of_ble_eq_true rfl) (by refine ⟨by simp [kBoth, hq2, hq7, hsk], ?_⟩; simp [boF, hsk]) dX5_both_55
  by_cases e11_2 : w = (2 : Int32)
  · rw [show w = (2 : Int32) from e11_2]
    refine lv_tableIn (off := 45) (tgt := 56) hx hb dX5_both_11 (by decide) (by decide) (by decide) (by decide) ?_
    have hsk := e11_2
    refine lv_aload_n hx hb dX5_both_56 rfl (lv_at hl 0 rfl) ?_
    refine va_get (ci := 5) (v := .ref ho) (C := RX5) (T := TX5) (N := 7) hx hb hts hi5 hown hK hP 0 rfl rfl 1 (by decide) lk19 (fun _ h9 => h9) rfl dX5_both_57 ?_
    refine lv_iload_n hx hb dX5_both_60 rfl (lv_at hl 1 rfl) ?_
    refine lv_iload_n hx hb dX5_both_61 rfl (lv_at hl 2 rfl) ?_
    rw [show p = nI (cN p) from hn2.1]
    rw [show r = nI (cN r) from hn7.1]
    have hPc := P_sub (ws' := hw K ho hoa S) hP [1, 2, 3, 4, 5, 6, 7, 8, 9, 10, 11] rfl
    refine xr_V (As := [.int (nI (cN p)), .int (nI (cN r))]) (rest := []) ⟨hx, hb, hml, hown, hts⟩ (c_X2_worthOf l K ho hoa S (cN p) (by omega) (cN r) (by omega)) (cwV 2 hts gX5_both_X2_worthOf rfl rfl rfl (by decide +kernel) ⟨Nat.le_of_ble_eq_true rfl, Nat.le_of_ble_eq_true rfl⟩) hK hPc 0 2 rfl rfl rfl rfl hl.1 rfl (Nat.le_of_ble_eq_true rfl) (Nat.le_of_ble_eq_true rfl) (Nat.le_of_ble_eq_true rfl) dX5_both_62 ?_
    exact hend _ _ _ _ _ _ _ () hP hD hS (Nat.le_of_ble_eq_true rfl) (Nat.le_of_ble_eq_true rfl) (by refine ⟨by simp [kBoth, hq2, hq7, hsk], ?_⟩; simp [boF, hsk]) dX5_both_65
  have ne11_0 := lv_neT (a := 0) e11_0 rfl
  have ne11_1 := lv_neT (a := 1) e11_1 rfl
  have ne11_2 := lv_neT (a := 2) e11_2 rfl
  refine lv_tableOut (tgt := 66) hx hb dX5_both_11 (by omega) (by decide) ?_
  have hsd : ¬ inR w 0 2 := out_rng (n := 2) (by decide) (by
    intro k hk
    rcases (show k = 0 ∨ k = 1 ∨ k = 2 by omega) with rfl | rfl | rfl
    · exact e11_0
    · exact e11_1
    · exact e11_2)
  exact hthr _ _ _ _ 66 115 119 182 _ _ exA "no such number of a player and a role" () hP hD hS (Nat.le_of_ble_eq_true rfl) (Nat.le_of_ble_eq_true rfl) (by (simp [kBoth, hq2, hq7, hsd]; done)) (by decide) (by decide) (by decide +kernel) (hts (.classLink RX5 115 "java/lang/IllegalArgumentException") (by decide +kernel)) (hts (.initialized "java/lang/IllegalArgumentException") (by decide +kernel)) (fun w9 hw9 => hts w9 (List.mem_cons_of_mem _ (List.mem_append_left _ (List.mem_append_right _ hw9)))) (by decide +kernel) (by decide +kernel) dX5_both_66 dX5_both_69 (Or.inl ⟨dX5_both_70, dX5_both_72, dX5_both_75⟩) hl.1 (Nat.le_of_ble_eq_true rfl)

abbrev rm_X5_ranked : Room := { frames := 6, cells := 4, slots := 24, locals := 90 }
set_option maxHeartbeats 4000000 in
set_option maxRecDepth 100000 in
theorem c_X5_ranked (l : Launch) (hls : l.stackTraces = false) (K : KX) (x : Nat) (tx : Nat) (ho : Nat) (ca : Nat) (tr : Nat) (hi : Nat) (sl : Nat) (sv : Nat) (k : Int32) (hoa : Nat → Nat) (S : HV) (P : Nat) (hP0 : S 11 0 = nI P) (hP0b : P ≤ 10) (sz : Nat) : vx_Met l yX5_ranked wsX5_ranked rm_X5_ranked (va_Pc [.ref x, .int k] (xPreS K ([(x, .inr (5, [.ref tx, .ref ho, .ref ca, .ref tr, .ref hi, .ref sl, .ref sv]))] ++ hw K ho hoa S) sz)) (va_Qi (fun (r9 : Int32) (_u : Unit) => kRank k = 0 ∧ r9 = fstF (fun p => decide (plc S p P = k)) 0 P) (fun _u t => xPost K (va_A ([(x, .inr (5, [.ref tx, .ref ho, .ref ca, .ref tr, .ref hi, .ref sl, .ref sv]))] ++ hw K ho hoa S) sz) ([(x, .inr (5, [.ref tx, .ref ho, .ref ca, .ref tr, .ref hi, .ref sl, .ref sv]))] ++ hw K ho hoa S) t) (va_A ([(x, .inr (5, [.ref tx, .ref ho, .ref ca, .ref tr, .ref hi, .ref sl, .ref sv]))] ++ hw K ho hoa S) sz)) (xXC K (va_A ([(x, .inr (5, [.ref tx, .ref ho, .ref ca, .ref tr, .ref hi, .ref sl, .ref sv]))] ++ hw K ho hoa S) sz) (fun (E : String) (_u8 : Unit) => (kRank k = 1 ∧ E = exA)) (fun _u8 => [(x, .inr (5, [.ref tx, .ref ho, .ref ca, .ref tr, .ref hi, .ref sl, .ref sv]))] ++ hw K ho hoa S)) 4 24 (va_A ([(x, .inr (5, [.ref tx, .ref ho, .ref ca, .ref tr, .ref hi, .ref sl, .ref sv]))] ++ hw K ho hoa S) sz) := by
  refine xt_starti (cc := cX5_ranked) (maxL := 2) hls (by decide) rfl rfl (Nat.le_of_ble_eq_true rfl) ⟨Nat.le_of_ble_eq_true rfl, Nat.le_of_ble_eq_true rfl, Nat.le_of_ble_eq_true rfl, Nat.le_of_ble_eq_true rfl⟩ ?_
  intro p9 e9 s9 m9 below9 meth9 c9 H locs ls A av9 Q9 hx hb hlocks hml hname hts hown hK hP hD hS hA hsz hZ hend hthr hout hl
  have hown : s9.vm.findClass RX5 = some m9.cls := hown
  have hl : lv_has ls 2 [(0, .ref x), (1, .int k)] := hl
  have hi5 : ∀ w ∈ u_ws RX5 TX5 7, w ∈ wsX5_ranked := by decide +kernel
  have lk19 := hts (.fieldLink RX5 19 "StandIns" "house" "LStandIns$House;") (by decide +kernel)
  refine lv_iload_n hx hb dX5_ranked_0 rfl (lv_at hl 1 rfl) ?_
  refine lv_if_ge (tgt := 14) hx hb dX5_ranked_1 (by decide) (fun c_1 => ?_) (fun c_1 => ?_)
  · skip
    have c_1n := Int32.not_lt.mpr c_1
    refine lv_aload_n hx hb dX5_ranked_14 rfl (lv_at hl 0 rfl) ?_
    refine va_get (ci := 5) (v := .ref ho) (C := RX5) (T := TX5) (N := 7) hx hb hts hi5 hown hK hP 0 rfl rfl 1 (by decide) lk19 (fun _ h9 => h9) rfl dX5_ranked_15 ?_
    refine lv_iload_n hx hb dX5_ranked_18 rfl (lv_at hl 1 rfl) ?_
    have hPc := P_sub (ws' := hw K ho hoa S) hP [1, 2, 3, 4, 5, 6, 7, 8, 9, 10, 11] rfl
    refine xr_V (As := [.int k]) (rest := []) ⟨hx, hb, hml, hown, hts⟩ (c_X2_playerAtPlace l K ho hoa S k P hP0 (by omega)) (cwV 1 hts gX5_ranked_X2_playerAtPlace rfl rfl rfl (by decide +kernel) ⟨Nat.le_of_ble_eq_true rfl, Nat.le_of_ble_eq_true rfl⟩) hK hPc 0 2 rfl rfl rfl rfl hl.1 rfl (Nat.le_of_ble_eq_true rfl) (Nat.le_of_ble_eq_true rfl) (Nat.le_of_ble_eq_true rfl) dX5_ranked_19 ?_
    exact hend _ _ _ _ _ _ _ () hP hD hS (Nat.le_of_ble_eq_true rfl) (Nat.le_of_ble_eq_true rfl) (by exact ⟨if_neg (Int32.not_lt.mpr c_1), rfl⟩) dX5_ranked_22
  · skip
    have c_1n := Int32.not_le.mp c_1
    exact hthr _ _ _ _ 4 115 119 187 _ _ exA "there is no negative place" () hP hD hS (Nat.le_of_ble_eq_true rfl) (Nat.le_of_ble_eq_true rfl) (by exact ⟨if_pos c_1n, rfl⟩) (by decide) (by decide) (by decide +kernel) (hts (.classLink RX5 115 "java/lang/IllegalArgumentException") (by decide +kernel)) (hts (.initialized "java/lang/IllegalArgumentException") (by decide +kernel)) (fun w9 hw9 => hts w9 (List.mem_cons_of_mem _ (List.mem_append_right _ hw9))) (by decide +kernel) (by decide +kernel) dX5_ranked_4 dX5_ranked_7 (Or.inl ⟨dX5_ranked_8, dX5_ranked_10, dX5_ranked_13⟩) hl.1 (Nat.le_of_ble_eq_true rfl)

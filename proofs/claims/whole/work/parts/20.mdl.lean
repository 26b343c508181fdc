/-! the model: its rows of ints -/
theorem hrow_app (S : HV) (k : Nat) (f : Nat → Int32) (j : Nat) : hrow S k f j = if j = k then f else S j := by
  by_cases h : j = k
  · subst h; rw [hrow_self, if_pos rfl]
  · rw [hrow_ne _ _ h, if_neg h]
def layF (f g : Nat → Int32) (i j k : Nat) : Nat → Int32 := fun x => if j ≤ x ∧ x < j + k then f (i + (x - j)) else g x
theorem layF_0 (f g : Nat → Int32) (i j : Nat) : g = layF f g i j 0 := by
  funext x
  unfold layF
  rw [if_neg (by omega)]
theorem layF_s (f g : Nat → Int32) (i j k : Nat) : upd (layF f g i j k) (j + k) (f (i + k)) = layF f g i j (k + 1) := by
  funext x
  unfold upd layF
  by_cases e : x = j + k
  · subst e
    rw [if_pos rfl, if_pos (by omega), show j + k - j = k by omega]
  · rw [if_neg e]
    by_cases c : j ≤ x ∧ x < j + k
    · rw [if_pos c, if_pos (by omega)]
    · rw [if_neg c, if_neg (by omega)]
def bgF (N : Nat → Int32) (k : Nat) : Nat → Int32 := fun j => if j < k then (if 18 ≤ j ∧ j ≤ 23 then -1 else 0) else N j
theorem bgF_0 (N : Nat → Int32) : N = bgF N 0 := by
  funext x
  simp [bgF]
theorem bgF_s (N : Nat → Int32) (k : Nat) {v : Int32} (h : v = if 18 ≤ k ∧ k ≤ 23 then -1 else 0) : upd (bgF N k) k v = bgF N (k + 1) := by
  funext x
  unfold upd bgF
  by_cases e : x = k
  · subst e
    rw [if_pos rfl, if_pos (show x < x + 1 by omega), h]
  · rw [if_neg e]
    by_cases c : x < k
    · rw [if_pos c, if_pos (show x < k + 1 by omega)]
    · rw [if_neg c, if_neg (show ¬ x < k + 1 by omega)]
def mEmp : Nat → Int32 := upd (upd (upd (upd (upd (fun j => if 18 ≤ j ∧ j ≤ 23 then -1 else 0) 5 5) 6 10) 7 2) 8 5) 9 15
def shF (f : Nat → Int32) (k : Nat) : Nat → Int32 := fun x => if x < k then f (x + 190) else f x
theorem shF_0 (f : Nat → Int32) : f = shF f 0 := by
  funext x
  simp [shF]
theorem shF_s (f : Nat → Int32) (k : Nat) : upd (shF f k) k (shF f k (k + 190)) = shF f (k + 1) := by
  funext x
  unfold upd shF
  by_cases e : x = k
  · subst e
    rw [if_pos rfl, if_neg (show ¬ x + 190 < x by omega), if_pos (show x < x + 1 by omega)]
  · rw [if_neg e]
    by_cases c : x < k
    · rw [if_pos c, if_pos (show x < k + 1 by omega)]
    · rw [if_neg c, if_neg (show ¬ x < k + 1 by omega)]
def remC (c : Nat) : Nat := if c = 14 then 14 else c + 1
def remP (N f : Nat → Int32) (c : Nat) : Nat → Int32 := if c = 14 then layF N (shF f 2470) 0 2470 190 else layF N f 0 (190 * c) 190
def remM (M : HV) (c : Nat) : HV := hput (hrow M 2 (remP (M 0) (M 2) c)) 3 (nI (remC c))
theorem rem_p {N g f : Nat → Int32} {c d : Nat} (h : (c = 14 ∧ f = shF g 2470 ∧ d = 13) ∨ (c ≠ 14 ∧ f = g ∧ d = c)) : layF N f 0 (190 * d) 190 = remP N g c := by
  unfold remP
  rcases h with ⟨a, b, e⟩ | ⟨a, b, e⟩
  · rw [if_pos a, b, e]
  · rw [if_neg a, b, e]
theorem rem_c {g f : Nat → Int32} {c d : Nat} (h : (c = 14 ∧ f = shF g 2470 ∧ d = 13) ∨ (c ≠ 14 ∧ f = g ∧ d = c)) : nI d + 1 = nI (remC c) := by
  rw [nI_1]
  unfold remC
  congr 1
  split <;> omega
theorem mk_un {f : Nat → Int32} {e i n : Nat} {v : Int32} (h : i ≠ e) (a : f i = nI n) : upd f e v i = nI n := by rw [pk_un h]; exact a
theorem mk_ite {c : Prop} [Decidable c] {f g : Nat → Int32} {i n : Nat} (a : f i = nI n) (b : g i = nI n) : (if c then f else g) i = nI n := by
  split
  · exact a
  · exact b
def goM (N E : Nat → Int32) (t p r : Nat) : Int32 := if t.testBit p = true then -1 else if mFree N p ∧ 0 < N (70 + 6 * p + r) then (if E (t ||| 2 ^ p) < 0 then -1 else mW N p r + E (t ||| 2 ^ p)) else -1

abbrev rm_X6_thrown : Room := { frames := 0, cells := 0, slots := 0, locals := 0 }
set_option maxHeartbeats 4000000 in
set_option maxRecDepth 100000 in
theorem c_X6_thrown (l : Launch) (K : KX) (h : Nat) (a : Nat → Nat) (M : HV) : Met l yX6_thrown wsX6_thrown rm_X6_thrown (va_Pc [.ref h] (xRead K (mw K h a M))) (vp_Si (fun r9 => r9 = M 8 0)) 0 0 (fun _ => False) := by
  refine xr_starti (cc := cX6_thrown) (maxL := 1) (by decide) rfl (Nat.le_of_ble_eq_true rfl) ?_
  intro p9 e9 s9 m9 below9 meth9 c9 H ls av9 Q9 hx hb hlocks hml hts hown hK hP hend hl
  have hown : s9.vm.findClass RX6 = some m9.cls := hown
  have hl : lv_has ls 1 [(0, .ref h)] := hl
  have hi6 : ∀ w ∈ u_ws RX6 TX6 14, w ∈ wsX6_thrown := by decide +kernel
  have lk42 := hts (.fieldLink RX6 42 "StandInsModel" "thrown" "I") (by decide +kernel)
  refine lv_aload_n hx hb dX6_thrown_0 rfl (lv_at hl 0 rfl) ?_
  refine va_get (ci := 6) (v := .int (M 8 0)) (C := RX6) (T := TX6) (N := 14) hx hb hts hi6 hown hK hP 0 rfl rfl 8 (by decide) lk42 (fun _ h9 => h9) rfl dX6_thrown_1 ?_
  exact hend _ _ _ (by first | rfl | (simp; done) | omega) dX6_thrown_4

abbrev rm_X6_fails : Room := { frames := 0, cells := 0, slots := 0, locals := 0 }
set_option maxHeartbeats 4000000 in
set_option maxRecDepth 100000 in
theorem c_X6_fails (l : Launch) (K : KX) (h : Nat) (a : Nat → Nat) (M : HV) (v : Int32) (sz : Nat) : Met l yX6_fails wsX6_fails rm_X6_fails (va_Pc [.ref h, .int v] (xPre K (mw K h a M) sz)) (va_Qi (fun (r9 : Int32) (_u : Unit) => r9 = 0) (fun _u t => xPost K (va_A (mw K h a M) sz) (mw K h a (hput M 8 v)) t) (va_A (mw K h a M) sz)) 0 0 (va_A (mw K h a M) sz) := by
  refine xw_starti (cc := cX6_fails) (maxL := 2) (by decide) rfl (Nat.le_of_ble_eq_true rfl) ?_
  intro p9 e9 s9 m9 below9 meth9 c9 H locs ls A av9 Q9 hx hb hlocks hml hname hts hown hK hP hD hS hA hsz hend hl
  have hown : s9.vm.findClass RX6 = some m9.cls := hown
  have hl : lv_has ls 2 [(0, .ref h), (1, .int v)] := hl
  have hi6 : ∀ w ∈ u_ws RX6 TX6 14, w ∈ wsX6_fails := by decide +kernel
  have lk42 := hts (.fieldLink RX6 42 "StandInsModel" "thrown" "I") (by decide +kernel)
  refine lv_aload_n hx hb dX6_fails_0 rfl (lv_at hl 0 rfl) ?_
  refine lv_iload_n hx hb dX6_fails_1 rfl (lv_at hl 1 rfl) ?_
  refine va_put (ci := 6) (v := .int v) (ty := .int) (C := RX6) (T := TX6) (N := 14) hx hb hts hi6 tyX6 tyX6_ok nmX6 hown hK hP hD hS 0 rfl rfl 8 (by decide) lk42 (fun _ h9 => h9) rfl (by decide +kernel) rfl rfl (Nat.le_of_ble_eq_true rfl) dX6_fails_2 (fun H locs hP hD hS => ?_)
  have hP : va_P K.1 vwCl (mw K h a (hput M 8 v)) H := hP
  have hD : va_D A (mw K h a (hput M 8 v)) := hD
  refine lv_iconst (v := (0 : Int32)) hx hb dX6_fails_5 (by decide) ?_
  exact hend _ _ _ _ _ _ _ () hP hD hS (Nat.le_of_ble_eq_true rfl) (Nat.le_of_ble_eq_true rfl) (by first | rfl | (simp; done) | omega) dX6_fails_6

theorem bg_in {k : Nat} (h : (18 : Int32) ≤ nI k ∧ nI k ≤ 23) (hk : k < 190) : 18 ≤ k ∧ k ≤ 23 := ⟨(nI_leI (by decide) (by omega)).mp h.1, (nI_leI (by omega) (by decide)).mp h.2⟩
theorem bg_ni {k : Nat} (h : 18 ≤ k ∧ k ≤ 23) : (18 : Int32) ≤ nI k ∧ nI k ≤ 23 := ⟨(nI_leI (by decide) (by omega)).mpr h.1, (nI_leI (by omega) (by decide)).mpr h.2⟩
abbrev rm_X6_begins : Room := { frames := 1, cells := 0, slots := 0, locals := 22 }
set_option maxHeartbeats 4000000 in
set_option maxRecDepth 100000 in
theorem c_X6_begins (l : Launch) (K : KX) (q : Nat) (N : Nat → Int32) (sz : Nat) : Met l yX6_begins wsX6_begins rm_X6_begins (va_Pc [.ref q] (xPre K ([(q, aI K 190 N)]) sz)) (va_Qv (fun _u : Unit => True) (fun _u t => xPost K (va_A ([(q, aI K 190 N)]) sz) ([(q, aI K 190 mEmp)]) t) (va_A ([(q, aI K 190 N)]) sz)) 0 0 (va_A ([(q, aI K 190 N)]) sz) := by
  refine xw_startv (cc := cX6_begins) (maxL := 2) (by decide) rfl (Nat.le_of_ble_eq_true rfl) ?_
  intro p9 e9 s9 m9 below9 meth9 c9 H locs ls A av9 Q9 hx hb hlocks hml hname hts hown hK hP hD hS hA hsz hend hl
  have hown : s9.vm.findClass RX6 = some m9.cls := hown
  have hl : lv_has ls 2 [(0, .ref q)] := hl
  refine lv_iconst (v := (0 : Int32)) hx hb dX6_begins_0 (by decide) ?_
  refine lv_istore_n (lv' := [(1, .int (0 : Int32)), (0, .ref q)]) hx hb dX6_begins_1 rfl hl (by decide) rfl (fun ls hl => ?_)
  have lp2 : ∀ (n9 : Nat) (k : Nat) (H : Heap) (locs : List Loc) (ls : Array Slot), 190 - k < n9 → (k ≤ 190) → va_P K.1 vwCl ([(q, aI K 190 (bgF N k))]) H → va_D A ([(q, aI K 190 (bgF N k))]) → va_S A s9.heap H locs → lv_has ls 2 [(0, .ref q), (1, .int (nI k))] → W p9 l e9 rm_X6_begins s9 m9 av9 below9 meth9 c9 H locs 0 0 Q9 (F0 m9 2 ls []) := by
    intro n9
    induction n9 with
    | zero => intro k H locs ls hmu hk hP hD hS hl; exact absurd hmu (Nat.not_lt_zero _)
    | succ n9 ih2 =>
      intro k H locs ls hmu hk hP hD hS hl
      refine lv_iload_n hx hb dX6_begins_2 rfl (lv_at hl 1 rfl) ?_
      refine lv_sipush (v := (190 : Int32)) hx hb dX6_begins_3 (by decide) ?_
      refine xn_icmp_ge (tgt := 34) hx hb k 190 rfl rfl (by omega) (by decide) dX6_begins_6 (by decide) (fun c_6 => ?_) (fun c_6 => ?_)
      · skip
        refine lv_aload_n hx hb dX6_begins_34 rfl (lv_at hl 0 rfl) ?_
        refine lv_iconst (v := (5 : Int32)) hx hb dX6_begins_35 (by decide) ?_
        refine lv_iconst (v := (5 : Int32)) hx hb dX6_begins_36 (by decide) ?_
        refine xi_st hx hb hK hP hD hS 0 (f := bgF N k) rfl 5 rfl (by omega) (by decide) ([(q, aI K 190 (upd (bgF N k) 5 (5 : Int32)))]) rfl dX6_begins_37 (fun H locs hP hD hS => ?_)
        refine lv_aload_n hx hb dX6_begins_38 rfl (lv_at hl 0 rfl) ?_
        refine lv_bipush (v := (6 : Int32)) hx hb dX6_begins_39 (by decide) ?_
        refine lv_bipush (v := (10 : Int32)) hx hb dX6_begins_41 (by decide) ?_
        refine xi_st hx hb hK hP hD hS 0 (f := upd (bgF N k) 5 (5 : Int32)) rfl 6 rfl (by omega) (by decide) ([(q, aI K 190 (upd (upd (bgF N k) 5 (5 : Int32)) 6 (10 : Int32)))]) rfl dX6_begins_43 (fun H locs hP hD hS => ?_)
        refine lv_aload_n hx hb dX6_begins_44 rfl (lv_at hl 0 rfl) ?_
        refine lv_bipush (v := (7 : Int32)) hx hb dX6_begins_45 (by decide) ?_
        refine lv_iconst (v := (2 : Int32)) hx hb dX6_begins_47 (by decide) ?_
        refine xi_st hx hb hK hP hD hS 0 (f := upd (upd (bgF N k) 5 (5 : Int32)) 6 (10 : Int32)) rfl 7 rfl (by omega) (by decide) ([(q, aI K 190 (upd (upd (upd (bgF N k) 5 (5 : Int32)) 6 (10 : Int32)) 7 (2 : Int32)))]) rfl dX6_begins_48 (fun H locs hP hD hS => ?_)
        refine lv_aload_n hx hb dX6_begins_49 rfl (lv_at hl 0 rfl) ?_
        refine lv_bipush (v := (8 : Int32)) hx hb dX6_begins_50 (by decide) ?_
        refine lv_iconst (v := (5 : Int32)) hx hb dX6_begins_52 (by decide) ?_
        refine xi_st hx hb hK hP hD hS 0 (f := upd (upd (upd (bgF N k) 5 (5 : Int32)) 6 (10 : Int32)) 7 (2 : Int32)) rfl 8 rfl (by omega) (by decide) ([(q, aI K 190 (upd (upd (upd (upd (bgF N k) 5 (5 : Int32)) 6 (10 : Int32)) 7 (2 : Int32)) 8 (5 : Int32)))]) rfl dX6_begins_53 (fun H locs hP hD hS => ?_)
        refine lv_aload_n hx hb dX6_begins_54 rfl (lv_at hl 0 rfl) ?_
        refine lv_bipush (v := (9 : Int32)) hx hb dX6_begins_55 (by decide) ?_
        refine lv_bipush (v := (15 : Int32)) hx hb dX6_begins_57 (by decide) ?_
        refine xi_st hx hb hK hP hD hS 0 (f := upd (upd (upd (upd (bgF N k) 5 (5 : Int32)) 6 (10 : Int32)) 7 (2 : Int32)) 8 (5 : Int32)) rfl 9 rfl (by omega) (by decide) ([(q, aI K 190 (upd (upd (upd (upd (upd (bgF N k) 5 (5 : Int32)) 6 (10 : Int32)) 7 (2 : Int32)) 8 (5 : Int32)) 9 (15 : Int32)))]) rfl dX6_begins_59 (fun H locs hP hD hS => ?_)
        have hP := P_ext hP 0 (f := upd (upd (upd (upd (upd (bgF N k) 5 (5 : Int32)) 6 (10 : Int32)) 7 (2 : Int32)) 8 (5 : Int32)) 9 (15 : Int32)) (g := mEmp) rfl (by intro j hj; simp only [upd, mEmp, bgF]; rw [if_pos (show j < k by omega)])
        have hD : va_D A ([(q, aI K 190 mEmp)]) := hD.set (p := 0) rfl
        exact hend _ _ _ _ _ _ () hP hD hS (Nat.le_of_ble_eq_true rfl) (Nat.le_of_ble_eq_true rfl) trivial dX6_begins_60
      · skip
        refine lv_aload_n hx hb dX6_begins_9 rfl (lv_at hl 0 rfl) ?_
        refine lv_iload_n hx hb dX6_begins_10 rfl (lv_at hl 1 rfl) ?_
        refine lv_iload_n hx hb dX6_begins_11 rfl (lv_at hl 1 rfl) ?_
        refine lv_bipush (v := (18 : Int32)) hx hb dX6_begins_12 (by decide) ?_
        refine lv_bipush (v := (23 : Int32)) hx hb dX6_begins_14 (by decide) ?_
        have hPc := P_sub (ws' := []) hP [] rfl
        refine xr_S (As := [.int (nI k), .int (18 : Int32), .int (23 : Int32)]) (rest := [.int (nI k), .ref q]) ⟨hx, hb, hml, hown, hts⟩ (c_X6_in l K (nI k) (18 : Int32) (23 : Int32)) (va_cwS 3 hts gX6_begins_X6_in rfl rfl rfl (by decide +kernel) ⟨Nat.le_of_ble_eq_true rfl, Nat.le_of_ble_eq_true rfl⟩) hK hPc rfl hl.1 rfl (Nat.le_of_ble_eq_true rfl) (Nat.le_of_ble_eq_true rfl) (Nat.le_of_ble_eq_true rfl) dX6_begins_16 ?_
        refine xb_if_eq (tgt := 26) hx hb dX6_begins_19 (by decide) (fun c_19 => ?_) (fun c_19 => ?_)
        · skip
          refine lv_iconst (v := (0 : Int32)) hx hb dX6_begins_26 (by decide) ?_
          refine xi_st hx hb hK hP hD hS 0 (f := bgF N k) rfl k rfl (by omega) (by decide) ([(q, aI K 190 (upd (bgF N k) k (0 : Int32)))]) rfl dX6_begins_27 (fun H locs hP hD hS => ?_)
          refine lv_iinc (v := nI (k + 1)) (lv' := [(1, .int (nI (k + 1))), (0, .ref q)]) hx hb dX6_begins_28 hl (k := 1) rfl (nI_1 _) (by decide) rfl (fun ls hl => ?_)
          refine lv_goto (tgt := 2) hx hb dX6_begins_31 (by decide) ?_
          have eS0 : (upd (bgF N k) k (0 : Int32)) = bgF N (k + 1) := by exact bgF_s _ _ (by first | exact (if_pos (bg_in c_19 c_6)).symm | exact (if_neg (fun z => c_19 (bg_ni z))).symm)
          have hP : va_P K.1 vwCl ([(q, aI K 190 (bgF N (k + 1)))]) H := by rw [← eS0]; exact hP
          have hD : va_D A ([(q, aI K 190 (bgF N (k + 1)))]) := by rw [← eS0]; exact hD
          exact ih2 (k + 1) _ _ _ (by omega) (by first | omega | assumption | first | rfl | (simp [c_6, c_19]; done) | omega) hP hD hS (lv_cons (lv_at hl 1 rfl) (lv_cons (lv_at hl 0 rfl) (lv_nil hl)))
        · skip
          refine lv_iconst (v := (-1 : Int32)) hx hb dX6_begins_22 (by decide) ?_
          refine lv_goto (tgt := 27) hx hb dX6_begins_23 (by decide) ?_
          refine xi_st hx hb hK hP hD hS 0 (f := bgF N k) rfl k rfl (by omega) (by decide) ([(q, aI K 190 (upd (bgF N k) k (-1 : Int32)))]) rfl dX6_begins_27 (fun H locs hP hD hS => ?_)
          refine lv_iinc (v := nI (k + 1)) (lv' := [(1, .int (nI (k + 1))), (0, .ref q)]) hx hb dX6_begins_28 hl (k := 1) rfl (nI_1 _) (by decide) rfl (fun ls hl => ?_)
          refine lv_goto (tgt := 2) hx hb dX6_begins_31 (by decide) ?_
          have eS0 : (upd (bgF N k) k (-1 : Int32)) = bgF N (k + 1) := by exact bgF_s _ _ (by first | exact (if_pos (bg_in c_19 c_6)).symm | exact (if_neg (fun z => c_19 (bg_ni z))).symm)
          have hP : va_P K.1 vwCl ([(q, aI K 190 (bgF N (k + 1)))]) H := by rw [← eS0]; exact hP
          have hD : va_D A ([(q, aI K 190 (bgF N (k + 1)))]) := by rw [← eS0]; exact hD
          exact ih2 (k + 1) _ _ _ (by omega) (by first | omega | assumption | first | rfl | (simp [c_6, c_19]; done) | omega) hP hD hS (lv_cons (lv_at hl 1 rfl) (lv_cons (lv_at hl 0 rfl) (lv_nil hl)))
  have eS0 : (N) = bgF N 0 := by exact bgF_0 _
  have hP : va_P K.1 vwCl ([(q, aI K 190 (bgF N 0))]) H := by rw [← eS0]; exact hP
  have hD : va_D A ([(q, aI K 190 (bgF N 0))]) := by rw [← eS0]; exact hD
  exact lp2 _ 0 _ _ _ (Nat.lt_succ_self _) (by first | omega | assumption | first | rfl | (simp; done) | omega) hP hD hS (lv_cons (lv_at hl 1 rfl) (lv_cons (lv_is (lv_at hl 0 rfl) (show (0 : Int32) = nI 0 by first | rfl | (simp; done) | omega)) (lv_nil hl)))

abbrev rm_X6_lays : Room := { frames := 0, cells := 0, slots := 0, locals := 0 }
set_option maxHeartbeats 4000000 in
set_option maxRecDepth 100000 in
theorem c_X6_lays (l : Launch) (K : KX) (q1 : Nat) (f : Nat → Int32) (n1 : Nat) (hn1 : n1 < 2 ^ 31) (i : Nat) (q2 : Nat) (g : Nat → Int32) (n2 : Nat) (hn2 : n2 < 2 ^ 31) (j : Nat) (hi : i + 190 ≤ n1) (hj : j + 190 ≤ n2) (sz : Nat) : Met l yX6_lays wsX6_lays rm_X6_lays (va_Pc [.ref q1, .int (nI i), .ref q2, .int (nI j)] (xPre K ([(q1, aI K n1 f)] ++ [(q2, aI K n2 g)]) sz)) (va_Qv (fun _u : Unit => True) (fun _u t => xPost K (va_A ([(q1, aI K n1 f)] ++ [(q2, aI K n2 g)]) sz) ([(q1, aI K n1 f)] ++ [(q2, aI K n2 (layF f g i j 190))]) t) (va_A ([(q1, aI K n1 f)] ++ [(q2, aI K n2 g)]) sz)) 0 0 (va_A ([(q1, aI K n1 f)] ++ [(q2, aI K n2 g)]) sz) := by
  refine xw_startv (cc := cX6_lays) (maxL := 5) (by decide) rfl (Nat.le_of_ble_eq_true rfl) ?_
  intro p9 e9 s9 m9 below9 meth9 c9 H locs ls A av9 Q9 hx hb hlocks hml hname hts hown hK hP hD hS hA hsz hend hl
  have hown : s9.vm.findClass RX6 = some m9.cls := hown
  have hl : lv_has ls 5 [(0, .ref q1), (1, .int (nI i)), (2, .ref q2), (3, .int (nI j))] := hl
  refine lv_iconst (v := (0 : Int32)) hx hb dX6_lays_0 (by decide) ?_
  refine lv_istore (lv' := [(4, .int (0 : Int32)), (0, .ref q1), (1, .int (nI i)), (2, .ref q2), (3, .int (nI j))]) hx hb dX6_lays_1 hl (by decide) rfl (fun ls hl => ?_)
  have lp3 : ∀ (n9 : Nat) (k : Nat) (H : Heap) (locs : List Loc) (ls : Array Slot), 190 - k < n9 → (k ≤ 190) → va_P K.1 vwCl ([(q1, aI K n1 f)] ++ [(q2, aI K n2 (layF f g i j k))]) H → va_D A ([(q1, aI K n1 f)] ++ [(q2, aI K n2 (layF f g i j k))]) → va_S A s9.heap H locs → lv_has ls 5 [(0, .ref q1), (1, .int (nI i)), (2, .ref q2), (3, .int (nI j)), (4, .int (nI k))] → W p9 l e9 rm_X6_lays s9 m9 av9 below9 meth9 c9 H locs 0 0 Q9 (F0 m9 3 ls []) := by
    intro n9
    induction n9 with
    | zero => intro k H locs ls hmu hk hP hD hS hl; exact absurd hmu (Nat.not_lt_zero _)
    | succ n9 ih3 =>
      intro k H locs ls hmu hk hP hD hS hl
      refine lv_iload hx hb dX6_lays_3 (lv_at hl 4 rfl) ?_
      refine lv_sipush (v := (190 : Int32)) hx hb dX6_lays_5 (by decide) ?_
      refine xn_icmp_ge (tgt := 29) hx hb k 190 rfl rfl (by omega) (by decide) dX6_lays_8 (by decide) (fun c_8 => ?_) (fun c_8 => ?_)
      · skip
        have eS1 : (layF f g i j k) = layF f g i j 190 := by rw [show k = 190 by omega]
        rw [eS1] at hP hD
        exact hend _ _ _ _ _ _ () hP hD hS (Nat.le_of_ble_eq_true rfl) (Nat.le_of_ble_eq_true rfl) trivial dX6_lays_29
      · skip
        refine lv_aload_n hx hb dX6_lays_11 rfl (lv_at hl 2 rfl) ?_
        refine lv_iload_n hx hb dX6_lays_12 rfl (lv_at hl 3 rfl) ?_
        refine lv_iload hx hb dX6_lays_13 (lv_at hl 4 rfl) ?_
        refine lv_iadd hx hb dX6_lays_15 ?_
        refine lv_aload_n hx hb dX6_lays_16 rfl (lv_at hl 0 rfl) ?_
        refine lv_iload_n hx hb dX6_lays_17 rfl (lv_at hl 1 rfl) ?_
        refine lv_iload hx hb dX6_lays_18 (lv_at hl 4 rfl) ?_
        refine lv_iadd hx hb dX6_lays_20 ?_
        refine xi_ld hx hb hK hP 0 (f := f) rfl (i + k) (nn_add rfl rfl) (by omega) (by omega) dX6_lays_21 ?_
        refine xi_st hx hb hK hP hD hS 1 (f := layF f g i j k) rfl (j + k) (nn_add rfl rfl) (by omega) (by omega) ([(q1, aI K n1 f)] ++ [(q2, aI K n2 (upd (layF f g i j k) (j + k) (f (i + k))))]) rfl dX6_lays_22 (fun H locs hP hD hS => ?_)
        refine lv_iinc (v := nI (k + 1)) (lv' := [(4, .int (nI (k + 1))), (0, .ref q1), (1, .int (nI i)), (2, .ref q2), (3, .int (nI j))]) hx hb dX6_lays_23 hl (k := 4) rfl (nI_1 _) (by decide) rfl (fun ls hl => ?_)
        refine lv_goto (tgt := 3) hx hb dX6_lays_26 (by decide) ?_
        have eS1 : (upd (layF f g i j k) (j + k) (f (i + k))) = layF f g i j (k + 1) := by exact layF_s _ _ _ _ _
        have hP : va_P K.1 vwCl ([(q1, aI K n1 f)] ++ [(q2, aI K n2 (layF f g i j (k + 1)))]) H := by rw [← eS1]; exact hP
        have hD : va_D A ([(q1, aI K n1 f)] ++ [(q2, aI K n2 (layF f g i j (k + 1)))]) := by rw [← eS1]; exact hD
        exact ih3 (k + 1) _ _ _ (by omega) (by first | omega | assumption | first | rfl | (simp [c_8]; done) | omega) hP hD hS (lv_cons (lv_at hl 1 rfl) (lv_cons (lv_at hl 2 rfl) (lv_cons (lv_at hl 3 rfl) (lv_cons (lv_at hl 4 rfl) (lv_cons (lv_at hl 0 rfl) (lv_nil hl))))))
  have eS1 : (g) = layF f g i j 0 := by exact layF_0 _ _ _ _
  have hP : va_P K.1 vwCl ([(q1, aI K n1 f)] ++ [(q2, aI K n2 (layF f g i j 0))]) H := by rw [← eS1]; exact hP
  have hD : va_D A ([(q1, aI K n1 f)] ++ [(q2, aI K n2 (layF f g i j 0))]) := by rw [← eS1]; exact hD
  exact lp3 _ 0 _ _ _ (Nat.lt_succ_self _) (by first | omega | assumption | first | rfl | (simp; done) | omega) hP hD hS (lv_cons (lv_at hl 1 rfl) (lv_cons (lv_at hl 2 rfl) (lv_cons (lv_at hl 3 rfl) (lv_cons (lv_at hl 4 rfl) (lv_cons (lv_is (lv_at hl 0 rfl) (show (0 : Int32) = nI 0 by first | rfl | (simp; done) | omega)) (lv_nil hl))))))

abbrev rm_X6_remembers : Room := { frames := 1, cells := 0, slots := 0, locals := 24 }
set_option maxHeartbeats 4000000 in
set_option maxRecDepth 100000 in
theorem c_X6_remembers (l : Launch) (K : KX) (h : Nat) (a : Nat → Nat) (M : HV) (c : Nat) (hc0 : M 3 0 = nI c) (hc0b : c ≤ 14) (sz : Nat) : Met l yX6_remembers wsX6_remembers rm_X6_remembers (va_Pc [.ref h] (xPre K (mw K h a M) sz)) (va_Qv (fun _u : Unit => True) (fun _u t => xPost K (va_A (mw K h a M) sz) (mw K h a (hput (hrow M 2 (remP (M 0) (M 2) c)) 3 (nI (remC c)))) t) (va_A (mw K h a M) sz)) 0 0 (va_A (mw K h a M) sz) := by
  refine xw_startv (cc := cX6_remembers) (maxL := 2) (by decide) rfl (Nat.le_of_ble_eq_true rfl) ?_
  intro p9 e9 s9 m9 below9 meth9 c9 H locs ls A av9 Q9 hx hb hlocks hml hname hts hown hK hP hD hS hA hsz hend hl
  have hown : s9.vm.findClass RX6 = some m9.cls := hown
  have hl : lv_has ls 2 [(0, .ref h)] := hl
  have hi6 : ∀ w ∈ u_ws RX6 TX6 14, w ∈ wsX6_remembers := by decide +kernel
  have lk50 := hts (.fieldLink RX6 50 "StandInsModel" "kept" "I") (by decide +kernel)
  have lk7 := hts (.fieldLink RX6 7 "StandInsModel" "now" "[I") (by decide +kernel)
  have lk16 := hts (.fieldLink RX6 16 "StandInsModel" "past" "[I") (by decide +kernel)
  refine lv_aload_n hx hb dX6_remembers_0 rfl (lv_at hl 0 rfl) ?_
  refine va_get (ci := 6) (v := .int (M 3 0)) (C := RX6) (T := TX6) (N := 14) hx hb hts hi6 hown hK hP 0 rfl rfl 3 (by decide) lk50 (fun _ h9 => h9) rfl dX6_remembers_1 ?_
  refine lv_bipush (v := (14 : Int32)) hx hb dX6_remembers_4 (by decide) ?_
  have jn50 : ∀ (f : Nat → Int32) (d : Nat) (H : Heap) (locs : List Loc) (ls : Array Slot), (d ≤ 13) → ((c = 14 ∧ f = shF (M 2) 2470 ∧ d = 13) ∨ (c ≠ 14 ∧ f = M 2 ∧ d = c)) → va_P K.1 vwCl (mw K h a (hput (hrow M 2 f) 3 (nI d))) H → va_D A (mw K h a (hput (hrow M 2 f) 3 (nI d))) → va_S A s9.heap H locs → lv_has ls 2 [(0, .ref h)] → W p9 l e9 rm_X6_remembers s9 m9 av9 below9 meth9 c9 H locs 0 0 Q9 (F0 m9 50 ls []) := by
    intro f d H locs ls hd hfd hP hD hS hl
    refine lv_aload_n hx hb dX6_remembers_50 rfl (lv_at hl 0 rfl) ?_
    refine va_get (ci := 6) (v := .ref (a 0)) (C := RX6) (T := TX6) (N := 14) hx hb hts hi6 hown hK hP 0 rfl rfl 0 (by decide) lk7 (fun _ h9 => h9) rfl dX6_remembers_51 ?_
    refine lv_iconst (v := (0 : Int32)) hx hb dX6_remembers_54 (by decide) ?_
    refine lv_aload_n hx hb dX6_remembers_55 rfl (lv_at hl 0 rfl) ?_
    refine va_get (ci := 6) (v := .ref (a 2)) (C := RX6) (T := TX6) (N := 14) hx hb hts hi6 hown hK hP 0 rfl rfl 2 (by decide) lk16 (fun _ h9 => h9) rfl dX6_remembers_56 ?_
    refine lv_sipush (v := (190 : Int32)) hx hb dX6_remembers_59 (by decide) ?_
    refine lv_aload_n hx hb dX6_remembers_62 rfl (lv_at hl 0 rfl) ?_
    refine va_get (ci := 6) (v := .int (nI d)) (C := RX6) (T := TX6) (N := 14) hx hb hts hi6 hown hK hP 0 rfl rfl 3 (by decide) lk50 (fun _ h9 => h9) rfl dX6_remembers_63 ?_
    refine lv_imul hx hb dX6_remembers_66 ?_
    rw [show (190 : Int32) * (nI d) = nI (190 * d) from (nn_mul rfl rfl)]
    refine xw_Sv (As := [.ref (a 0), .int (0 : Int32), .ref (a 2), .int (nI (190 * d))]) (rest := []) (wc := [((a 0), aI K 190 (M 0))] ++ [((a 2), aI K 2660 f)]) (wr := (List.filterMap (fun i => (mw K h a (hput (hrow M 2 f) 3 (nI d)) : va_W)[i]?) ([0, 2, 4, 5, 6, 7, 8, 9] : List Nat))) ⟨hx, hb, hml, hown, hts⟩ (c_X6_lays l K (a 0) (M 0) 190 (by decide) 0 (a 2) f 2660 (by decide) (190 * d) (by decide) (by omega) H.size) (va_cwS 4 hts gX6_remembers_X6_lays rfl rfl rfl (by decide +kernel) ⟨Nat.le_of_ble_eq_true rfl, Nat.le_of_ble_eq_true rfl⟩) hK hP hD hS hA [1, 3] [0, 2, 4, 5, 6, 7, 8, 9] [0, 8, 1, 9, 2, 3, 4, 5, 6, 7] rfl rfl rfl (fun _u => mw K h a (hput (hrow (hrow M 0 (M 0)) 2 (layF (M 0) f 0 (190 * d) 190)) 3 (nI d))) (fun _ => rfl) rfl hl.1 rfl (Nat.le_of_ble_eq_true rfl) (Nat.le_of_ble_eq_true rfl) (Nat.le_of_ble_eq_true rfl) dX6_remembers_67 (fun _ H locs hq67 hP hD hS => ?_)
    have hP : va_P K.1 vwCl (mw K h a (hput (hrow (hrow M 0 (M 0)) 2 (layF (M 0) f 0 (190 * d) 190)) 3 (nI d))) H := hP
    have hD : va_D A (mw K h a (hput (hrow (hrow M 0 (M 0)) 2 (layF (M 0) f 0 (190 * d) 190)) 3 (nI d))) := hD
    refine lv_aload_n hx hb dX6_remembers_70 rfl (lv_at hl 0 rfl) ?_
    refine lv_dup hx hb dX6_remembers_71 rfl ?_
    refine va_get (ci := 6) (v := .int (nI d)) (C := RX6) (T := TX6) (N := 14) hx hb hts hi6 hown hK hP 0 rfl rfl 3 (by decide) lk50 (fun _ h9 => h9) rfl dX6_remembers_72 ?_
    refine lv_iconst (v := (1 : Int32)) hx hb dX6_remembers_75 (by decide) ?_
    refine lv_iadd hx hb dX6_remembers_76 ?_
    rw [show (nI d) + (1 : Int32) = nI (d + 1) from (nn_add rfl rfl)]
    refine va_put (ci := 6) (v := .int (nI (d + 1))) (ty := .int) (C := RX6) (T := TX6) (N := 14) hx hb hts hi6 tyX6 tyX6_ok nmX6 hown hK hP hD hS 0 rfl rfl 3 (by decide) lk50 (fun _ h9 => h9) rfl (by decide +kernel) rfl rfl (Nat.le_of_ble_eq_true rfl) dX6_remembers_77 (fun H locs hP hD hS => ?_)
    have hP : va_P K.1 vwCl (mw K h a (hput (hrow (hrow M 0 (M 0)) 2 (layF (M 0) f 0 (190 * d) 190)) 3 (nI (d + 1)))) H := hP
    have hD : va_D A (mw K h a (hput (hrow (hrow M 0 (M 0)) 2 (layF (M 0) f 0 (190 * d) 190)) 3 (nI (d + 1)))) := hD
    have eR1 : (layF (M 0) f 0 (190 * d) 190) = remP (M 0) (M 2) c := by first | exact rem_p hfd | exact (nI_1 _).symm.trans (rem_c hfd)
    rw [eR1] at hP hD
    have eR2 : (nI (d + 1)) = nI (remC c) := by first | exact rem_p hfd | exact (nI_1 _).symm.trans (rem_c hfd)
    rw [eR2] at hP hD
    exact hend _ _ _ _ _ _ () hP hD hS (Nat.le_of_ble_eq_true rfl) (Nat.le_of_ble_eq_true rfl) trivial dX6_remembers_80
  refine xn_icmp_ne (tgt := 50) hx hb c 14 hc0 rfl (by omega) (by decide) dX6_remembers_6 (by decide) (fun c_6 => ?_) (fun c_6 => ?_)
  · skip
    have hP : va_P K.1 vwCl (mw K h a (hput M 3 ((M 3) 0))) H := hP
    have hD : va_D A (mw K h a (hput M 3 ((M 3) 0))) := hD
    have eR3 : ((M 3) 0) = nI c := by first | rw [show k = 2470 by omega] | (rw [hc0, show c = 14 by omega]; rfl) | exact hc0
    rw [eR3] at hP hD
    have hP : va_P K.1 vwCl (mw K h a (hput (hrow M 2 (M 2)) 3 (nI c))) H := hP
    have hD : va_D A (mw K h a (hput (hrow M 2 (M 2)) 3 (nI c))) := hD
    exact jn50 (M 2) c _ _ _ (by first | omega | assumption | first | rfl | (simp [c_6]; done) | omega) (by first | omega | assumption | first | rfl | (simp [c_6]; done) | omega) hP hD hS (lv_cons (lv_at hl 0 rfl) (lv_nil hl))
  · skip
    refine lv_iconst (v := (0 : Int32)) hx hb dX6_remembers_9 (by decide) ?_
    refine lv_istore_n (lv' := [(1, .int (0 : Int32)), (0, .ref h)]) hx hb dX6_remembers_10 rfl hl (by decide) rfl (fun ls hl => ?_)
    have lp11 : ∀ (n9 : Nat) (k : Nat) (H : Heap) (locs : List Loc) (ls : Array Slot), 2470 - k < n9 → (k ≤ 2470) → va_P K.1 vwCl (mw K h a (hrow M 2 (shF (M 2) k))) H → va_D A (mw K h a (hrow M 2 (shF (M 2) k))) → va_S A s9.heap H locs → lv_has ls 2 [(0, .ref h), (1, .int (nI k))] → W p9 l e9 rm_X6_remembers s9 m9 av9 below9 meth9 c9 H locs 0 0 Q9 (F0 m9 11 ls []) := by
      intro n9
      induction n9 with
      | zero => intro k H locs ls hmu hk hP hD hS hl; exact absurd hmu (Nat.not_lt_zero _)
      | succ n9 ih11 =>
        intro k H locs ls hmu hk hP hD hS hl
        refine lv_iload_n hx hb dX6_remembers_11 rfl (lv_at hl 1 rfl) ?_
        refine lv_sipush (v := (2470 : Int32)) hx hb dX6_remembers_12 (by decide) ?_
        refine xn_icmp_ge (tgt := 40) hx hb k 2470 rfl rfl (by omega) (by decide) dX6_remembers_15 (by decide) (fun c_15 => ?_) (fun c_15 => ?_)
        · skip
          refine lv_aload_n hx hb dX6_remembers_40 rfl (lv_at hl 0 rfl) ?_
          refine lv_dup hx hb dX6_remembers_41 rfl ?_
          refine va_get (ci := 6) (v := .int (M 3 0)) (C := RX6) (T := TX6) (N := 14) hx hb hts hi6 hown hK hP 0 rfl rfl 3 (by decide) lk50 (fun _ h9 => h9) rfl dX6_remembers_42 ?_
          refine lv_iconst (v := (1 : Int32)) hx hb dX6_remembers_45 (by decide) ?_
          refine lv_isub hx hb dX6_remembers_46 ?_
          refine va_put (ci := 6) (v := .int ((M 3 0) - (1 : Int32))) (ty := .int) (C := RX6) (T := TX6) (N := 14) hx hb hts hi6 tyX6 tyX6_ok nmX6 hown hK hP hD hS 0 rfl rfl 3 (by decide) lk50 (fun _ h9 => h9) rfl (by decide +kernel) rfl rfl (Nat.le_of_ble_eq_true rfl) dX6_remembers_47 (fun H locs hP hD hS => ?_)
          have hP : va_P K.1 vwCl (mw K h a (hput (hrow M 2 (shF (M 2) k)) 3 ((M 3 0) - (1 : Int32)))) H := hP
          have hD : va_D A (mw K h a (hput (hrow M 2 (shF (M 2) k)) 3 ((M 3 0) - (1 : Int32)))) := hD
          have eR4 : (shF (M 2) k) = shF (M 2) 2470 := by first | rw [show k = 2470 by omega] | (rw [hc0, show c = 14 by omega]; rfl) | exact hc0
          rw [eR4] at hP hD
          have eR5 : ((M 3 0) - (1 : Int32)) = nI 13 := by first | rw [show k = 2470 by omega] | (rw [hc0, show c = 14 by omega]; rfl) | exact hc0
          rw [eR5] at hP hD
          have hP : va_P K.1 vwCl (mw K h a (hput (hrow M 2 (shF (M 2) 2470)) 3 (nI 13))) H := hP
          have hD : va_D A (mw K h a (hput (hrow M 2 (shF (M 2) 2470)) 3 (nI 13))) := hD
          exact jn50 (shF (M 2) 2470) 13 _ _ _ (by first | omega | assumption | first | rfl | (simp [c_6, c_15]; done) | omega) (by first | omega | assumption | first | rfl | (simp [c_6, c_15]; done) | omega) hP hD hS (lv_cons (lv_at hl 0 rfl) (lv_nil hl))
        · skip
          refine lv_aload_n hx hb dX6_remembers_18 rfl (lv_at hl 0 rfl) ?_
          refine va_get (ci := 6) (v := .ref (a 2)) (C := RX6) (T := TX6) (N := 14) hx hb hts hi6 hown hK hP 0 rfl rfl 2 (by decide) lk16 (fun _ h9 => h9) rfl dX6_remembers_19 ?_
          refine lv_iload_n hx hb dX6_remembers_22 rfl (lv_at hl 1 rfl) ?_
          refine lv_aload_n hx hb dX6_remembers_23 rfl (lv_at hl 0 rfl) ?_
          refine va_get (ci := 6) (v := .ref (a 2)) (C := RX6) (T := TX6) (N := 14) hx hb hts hi6 hown hK hP 0 rfl rfl 2 (by decide) lk16 (fun _ h9 => h9) rfl dX6_remembers_24 ?_
          refine lv_iload_n hx hb dX6_remembers_27 rfl (lv_at hl 1 rfl) ?_
          refine lv_sipush (v := (190 : Int32)) hx hb dX6_remembers_28 (by decide) ?_
          refine lv_iadd hx hb dX6_remembers_31 ?_
          refine xi_ld hx hb hK hP 3 (f := (shF (M 2) k)) rfl (k + 190) (nn_add rfl rfl) (by omega) (by decide) dX6_remembers_32 ?_
          refine xi_st hx hb hK hP hD hS 3 (f := (shF (M 2) k)) rfl k rfl (by omega) (by decide) (mw K h a (hrow M 2 (upd (shF (M 2) k) k ((shF (M 2) k) (k + 190))))) rfl dX6_remembers_33 (fun H locs hP hD hS => ?_)
          refine lv_iinc (v := nI (k + 1)) (lv' := [(1, .int (nI (k + 1))), (0, .ref h)]) hx hb dX6_remembers_34 hl (k := 1) rfl (nI_1 _) (by decide) rfl (fun ls hl => ?_)
          refine lv_goto (tgt := 11) hx hb dX6_remembers_37 (by decide) ?_
          have eR6 : (upd (shF (M 2) k) k ((shF (M 2) k) (k + 190))) = shF (M 2) (k + 1) := by exact shF_s _ _
          rw [eR6] at hP hD
          have hP : va_P K.1 vwCl (mw K h a (hrow M 2 (shF (M 2) (k + 1)))) H := hP
          have hD : va_D A (mw K h a (hrow M 2 (shF (M 2) (k + 1)))) := hD
          exact ih11 (k + 1) _ _ _ (by omega) (by first | omega | assumption | first | rfl | (simp [c_6, c_15]; done) | omega) hP hD hS (lv_cons (lv_at hl 1 rfl) (lv_cons (lv_at hl 0 rfl) (lv_nil hl)))
    have hP : va_P K.1 vwCl (mw K h a (hrow M 2 (M 2))) H := hP
    have hD : va_D A (mw K h a (hrow M 2 (M 2))) := hD
    have eR7 : (M 2) = shF (M 2) 0 := by exact shF_0 _
    rw [eR7] at hP hD
    have hP : va_P K.1 vwCl (mw K h a (hrow M 2 (shF (M 2) 0))) H := hP
    have hD : va_D A (mw K h a (hrow M 2 (shF (M 2) 0))) := hD
    exact lp11 _ 0 _ _ _ (Nat.lt_succ_self _) (by first | omega | assumption | first | rfl | (simp [c_6]; done) | omega) hP hD hS (lv_cons (lv_at hl 1 rfl) (lv_cons (lv_is (lv_at hl 0 rfl) (show (0 : Int32) = nI 0 by first | rfl | (simp [c_6]; done) | omega)) (lv_nil hl)))

abbrev rm_X6_ones : Room := { frames := 0, cells := 0, slots := 0, locals := 0 }
set_option maxHeartbeats 4000000 in
set_option maxRecDepth 100000 in
theorem c_X6_ones (l : Launch) (K : KX) (t : Nat) (ht : t < 1024) : Met l yX6_ones wsX6_ones rm_X6_ones (va_Pc [.int (nI t)] (xRead K ([]))) (vp_Si (fun r9 => r9 = nI (pop t))) 0 0 (fun _ => False) := by
  refine xr_starti (cc := cX6_ones) (maxL := 3) (by decide) rfl (Nat.le_of_ble_eq_true rfl) ?_
  intro p9 e9 s9 m9 below9 meth9 c9 H ls av9 Q9 hx hb hlocks hml hts hown hK hP hend hl
  have hown : s9.vm.findClass RX6 = some m9.cls := hown
  have hl : lv_has ls 3 [(0, .int (nI t))] := hl
  refine lv_iconst (v := (0 : Int32)) hx hb dX6_ones_0 (by decide) ?_
  refine lv_istore_n (lv' := [(1, .int (0 : Int32)), (0, .int (nI t))]) hx hb dX6_ones_1 rfl hl (by decide) rfl (fun ls hl => ?_)
  refine lv_iload_n hx hb dX6_ones_2 rfl (lv_at hl 1 rfl) ?_
  refine lv_istore_n (lv' := [(2, .int (nI t)), (1, .int (0 : Int32)), (0, .int (nI t))]) hx hb dX6_ones_3 rfl hl (by decide) rfl (fun ls hl => ?_)
  have lp4 : ∀ (n9 : Nat) (u : Nat) (ls : Array Slot), u < n9 → (u < 1024) → (pop u ≤ pop t) → lv_has ls 3 [(0, .int (nI t)), (1, .int (nI (pop t - pop u))), (2, .int (nI u))] → W p9 l e9 rm_X6_ones s9 m9 av9 below9 meth9 c9 H [] 0 0 Q9 (F0 m9 4 ls []) := by
    intro n9
    induction n9 with
    | zero => intro u ls hmu hu hpu hl; exact absurd hmu (Nat.not_lt_zero _)
    | succ n9 ih4 =>
      intro u ls hmu hu hpu hl
      refine lv_iload_n hx hb dX6_ones_4 rfl (lv_at hl 2 rfl) ?_
      refine xn_if_eq (tgt := 20) hx hb u rfl (by omega) dX6_ones_5 (by decide) (fun c_5 => ?_) (fun c_5 => ?_)
      · skip
        have hu0 : u = 0 := by omega
        subst hu0
        refine lv_iload_n hx hb dX6_ones_20 rfl (lv_at hl 1 rfl) ?_
        exact hend _ _ _ (by rw [pop_0, Nat.sub_zero]) dX6_ones_21
      · skip
        refine lv_iinc (v := nI ((pop t - pop u) + 1)) (lv' := [(1, .int (nI ((pop t - pop u) + 1))), (0, .int (nI t)), (2, .int (nI u))]) hx hb dX6_ones_8 hl (k := 1) rfl (nI_1 _) (by decide) rfl (fun ls hl => ?_)
        refine lv_iload_n hx hb dX6_ones_11 rfl (lv_at hl 2 rfl) ?_
        refine lv_iload_n hx hb dX6_ones_12 rfl (lv_at hl 2 rfl) ?_
        refine lv_iconst (v := (1 : Int32)) hx hb dX6_ones_13 (by decide) ?_
        refine lv_isub hx hb dX6_ones_14 ?_
        refine lv_iand hx hb dX6_ones_15 ?_
        refine lv_istore_n (lv' := [(2, .int ((nI u) &&& ((nI u) - (1 : Int32)))), (1, .int (nI ((pop t - pop u) + 1))), (0, .int (nI t))]) hx hb dX6_ones_16 rfl hl (by decide) rfl (fun ls hl => ?_)
        refine lv_goto (tgt := 4) hx hb dX6_ones_17 (by decide) ?_
        exact ih4 (u &&& (u - 1)) _ (by exact (Nat.lt_of_lt_of_le (pop_lt1024 u hu (Nat.pos_of_ne_zero c_5)).2 (Nat.le_of_lt_succ hmu))) (by exact Nat.lt_of_lt_of_le (pop_lt1024 u hu (Nat.pos_of_ne_zero c_5)).2 (Nat.le_of_lt hu)) (by have h9 := (pop_lt1024 u hu (Nat.pos_of_ne_zero c_5)).1; omega) (lv_cons (lv_at hl 2 rfl) (lv_cons (lv_is (lv_at hl 1 rfl) (show nI ((pop t - pop u) + 1) = nI (pop t - pop (u &&& (u - 1))) by have h9 := (pop_lt1024 u hu (Nat.pos_of_ne_zero c_5)).1; exact congrArg nI (by omega))) (lv_cons (lv_is (lv_at hl 0 rfl) (show (nI u) &&& ((nI u) - (1 : Int32)) = nI (u &&& (u - 1)) by exact nn_and rfl (nn_sub rfl rfl (by omega)))) (lv_nil hl))))
  exact lp4 _ t _ (Nat.lt_succ_self _) (by first | omega | assumption | first | rfl | (simp; done) | omega) (by exact Nat.le_refl _) (lv_cons (lv_at hl 2 rfl) (lv_cons (lv_is (lv_at hl 1 rfl) (show (0 : Int32) = nI (pop t - pop t) by (rw [Nat.sub_self]; rfl))) (lv_cons (lv_at hl 0 rfl) (lv_nil hl))))

abbrev rm_X6_goesOn_n : Room := { frames := 2, cells := 0, slots := 0, locals := 45 }
set_option maxHeartbeats 4000000 in
set_option maxRecDepth 100000 in
theorem c_X6_goesOn_n (l : Launch) (K : KX) (h : Nat) (a : Nat → Nat) (M : HV) (t : Nat) (ht : t < 1024) (p : Nat) (hp : p < 10) (r : Nat) (hr : r < 6) : Met l yX6_goesOn wsX6_goesOn rm_X6_goesOn_n (va_Pc [.ref h, .ref (a 0), .int (nI t), .int (nI p), .int (nI r)] (xRead K (mw K h a M))) (vp_Si (fun r9 => r9 = goM (M 0) (M 9) t p r)) 0 0 (fun _ => False) := by
  refine xr_starti (cc := cX6_goesOn) (maxL := 5) (by decide) rfl (Nat.le_of_ble_eq_true rfl) ?_
  intro p9 e9 s9 m9 below9 meth9 c9 H ls av9 Q9 hx hb hlocks hml hts hown hK hP hend hl
  have hown : s9.vm.findClass RX6 = some m9.cls := hown
  have hl : lv_has ls 5 [(0, .ref h), (1, .ref (a 0)), (2, .int (nI t)), (3, .int (nI p)), (4, .int (nI r))] := hl
  have hi6 : ∀ w ∈ u_ws RX6 TX6 14, w ∈ wsX6_goesOn := by decide +kernel
  have lk29 := hts (.fieldLink RX6 29 "StandInsModel" "reach" "[I") (by decide +kernel)
  refine lv_iload_n hx hb dX6_goesOn_0 rfl (lv_at hl 2 rfl) ?_
  refine lv_iload_n hx hb dX6_goesOn_1 rfl (lv_at hl 3 rfl) ?_
  refine lv_ishr hx hb dX6_goesOn_2 ?_
  refine lv_iconst (v := (1 : Int32)) hx hb dX6_goesOn_3 (by decide) ?_
  refine lv_iand hx hb dX6_goesOn_4 ?_
  refine lv_iconst (v := (1 : Int32)) hx hb dX6_goesOn_5 (by decide) ?_
  refine lv_icmp_eq (tgt := 32) hx hb dX6_goesOn_6 (by decide) (fun c_6 => ?_) (fun c_6 => ?_)
  · skip
    refine lv_iconst (v := (-1 : Int32)) hx hb dX6_goesOn_32 (by decide) ?_
    exact hend _ _ _ (by (unfold goM; first | rw [if_pos ((isIn_iff ht hp).mp c_6)] | rw [if_neg (fun z => c_6 ((isIn_iff ht hp).mpr z)), if_neg c_16] | rw [if_neg (fun z => c_6 ((isIn_iff ht hp).mpr z)), if_pos c_16, if_pos c_29n] | rw [if_neg (fun z => c_6 ((isIn_iff ht hp).mpr z)), if_pos c_16, if_pos (Int32.not_le.mp c_29)])) dX6_goesOn_33
  · skip
    refine lv_aload_n hx hb dX6_goesOn_9 rfl (lv_at hl 1 rfl) ?_
    refine lv_iload_n hx hb dX6_goesOn_10 rfl (lv_at hl 3 rfl) ?_
    refine lv_iload hx hb dX6_goesOn_11 (lv_at hl 4 rfl) ?_
    have hPc := P_sub (ws' := [((a 0), aI K 190 (M 0))]) hP [1] rfl
    refine xr_S (As := [.ref (a 0), .int (nI p), .int (nI r)]) (rest := []) ⟨hx, hb, hml, hown, hts⟩ (c_X6_canPlay l K (a 0) (M 0) p (by omega) r (by omega)) (va_cwS 3 hts gX6_goesOn_X6_canPlay rfl rfl rfl (by decide +kernel) ⟨Nat.le_of_ble_eq_true rfl, Nat.le_of_ble_eq_true rfl⟩) hK hPc rfl hl.1 rfl (Nat.le_of_ble_eq_true rfl) (Nat.le_of_ble_eq_true rfl) (Nat.le_of_ble_eq_true rfl) dX6_goesOn_13 ?_
    refine xb_if_eq (tgt := 32) hx hb dX6_goesOn_16 (by decide) (fun c_16 => ?_) (fun c_16 => ?_)
    · skip
      refine lv_iconst (v := (-1 : Int32)) hx hb dX6_goesOn_32 (by decide) ?_
      exact hend _ _ _ (by (unfold goM; first | rw [if_pos ((isIn_iff ht hp).mp c_6)] | rw [if_neg (fun z => c_6 ((isIn_iff ht hp).mpr z)), if_neg c_16] | rw [if_neg (fun z => c_6 ((isIn_iff ht hp).mpr z)), if_pos c_16, if_pos c_29n] | rw [if_neg (fun z => c_6 ((isIn_iff ht hp).mpr z)), if_pos c_16, if_pos (Int32.not_le.mp c_29)])) dX6_goesOn_33
    · skip
      refine lv_aload_n hx hb dX6_goesOn_19 rfl (lv_at hl 0 rfl) ?_
      refine va_get (ci := 6) (v := .ref (a 9)) (C := RX6) (T := TX6) (N := 14) hx hb hts hi6 hown hK hP 0 rfl rfl 9 (by decide) lk29 (fun _ h9 => h9) rfl dX6_goesOn_20 ?_
      refine lv_iload_n hx hb dX6_goesOn_23 rfl (lv_at hl 2 rfl) ?_
      refine lv_iconst (v := (1 : Int32)) hx hb dX6_goesOn_24 (by decide) ?_
      refine lv_iload_n hx hb dX6_goesOn_25 rfl (lv_at hl 3 rfl) ?_
      refine lv_ishl hx hb dX6_goesOn_26 ?_
      refine lv_ior hx hb dX6_goesOn_27 ?_
      refine xi_ld hx hb hK hP 7 (f := M 9) rfl (t ||| (2 ^ p)) (nn_or rfl (nn_shl1 rfl rfl (by omega))) (by exact set_lt (P := 10) ht hp) (by decide) dX6_goesOn_28 ?_
      refine lv_if_ge (tgt := 34) hx hb dX6_goesOn_29 (by decide) (fun c_29 => ?_) (fun c_29 => ?_)
      · skip
        have c_29n := Int32.not_lt.mpr c_29
        refine lv_aload_n hx hb dX6_goesOn_34 rfl (lv_at hl 1 rfl) ?_
        refine lv_iload_n hx hb dX6_goesOn_35 rfl (lv_at hl 3 rfl) ?_
        refine lv_iload hx hb dX6_goesOn_36 (lv_at hl 4 rfl) ?_
        have hPc := P_sub (ws' := [((a 0), aI K 190 (M 0))]) hP [1] rfl
        refine xr_S (As := [.ref (a 0), .int (nI p), .int (nI r)]) (rest := []) ⟨hx, hb, hml, hown, hts⟩ (c_X6_worth l K (a 0) (M 0) p (by omega) r (by omega)) (va_cwS 3 hts gX6_goesOn_X6_worth rfl rfl rfl (by decide +kernel) ⟨Nat.le_of_ble_eq_true rfl, Nat.le_of_ble_eq_true rfl⟩) hK hPc rfl hl.1 rfl (Nat.le_of_ble_eq_true rfl) (Nat.le_of_ble_eq_true rfl) (Nat.le_of_ble_eq_true rfl) dX6_goesOn_38 ?_
        refine lv_aload_n hx hb dX6_goesOn_41 rfl (lv_at hl 0 rfl) ?_
        refine va_get (ci := 6) (v := .ref (a 9)) (C := RX6) (T := TX6) (N := 14) hx hb hts hi6 hown hK hP 0 rfl rfl 9 (by decide) lk29 (fun _ h9 => h9) rfl dX6_goesOn_42 ?_
        refine lv_iload_n hx hb dX6_goesOn_45 rfl (lv_at hl 2 rfl) ?_
        refine lv_iconst (v := (1 : Int32)) hx hb dX6_goesOn_46 (by decide) ?_
        refine lv_iload_n hx hb dX6_goesOn_47 rfl (lv_at hl 3 rfl) ?_
        refine lv_ishl hx hb dX6_goesOn_48 ?_
        refine lv_ior hx hb dX6_goesOn_49 ?_
        refine xi_ld hx hb hK hP 7 (f := M 9) rfl (t ||| (2 ^ p)) (nn_or rfl (nn_shl1 rfl rfl (by omega))) (by exact set_lt (P := 10) ht hp) (by decide) dX6_goesOn_50 ?_
        refine lv_iadd hx hb dX6_goesOn_51 ?_
        exact hend _ _ _ (by (unfold goM; rw [if_neg (fun z => c_6 ((isIn_iff ht hp).mpr z)), if_pos c_16, if_neg (Int32.not_lt.mpr c_29)])) dX6_goesOn_52
      · skip
        have c_29n := Int32.not_le.mp c_29
        refine lv_iconst (v := (-1 : Int32)) hx hb dX6_goesOn_32 (by decide) ?_
        exact hend _ _ _ (by (unfold goM; first | rw [if_pos ((isIn_iff ht hp).mp c_6)] | rw [if_neg (fun z => c_6 ((isIn_iff ht hp).mpr z)), if_neg c_16] | rw [if_neg (fun z => c_6 ((isIn_iff ht hp).mpr z)), if_pos c_16, if_pos c_29n] | rw [if_neg (fun z => c_6 ((isIn_iff ht hp).mpr z)), if_pos c_16, if_pos (Int32.not_le.mp c_29)])) dX6_goesOn_33

abbrev rm_X6_goesOn_t : Room := { frames := 2, cells := 0, slots := 0, locals := 45 }
set_option maxHeartbeats 4000000 in
set_option maxRecDepth 100000 in
theorem c_X6_goesOn_t (l : Launch) (K : KX) (h : Nat) (a : Nat → Nat) (M : HV) (t : Nat) (ht : t < 1024) (p : Nat) (hp : p < 10) (r : Nat) (hr : r < 6) : Met l yX6_goesOn wsX6_goesOn rm_X6_goesOn_t (va_Pc [.ref h, .ref (a 1), .int (nI t), .int (nI p), .int (nI r)] (xRead K (mw K h a M))) (vp_Si (fun r9 => r9 = goM (M 1) (M 9) t p r)) 0 0 (fun _ => False) := by
  refine xr_starti (cc := cX6_goesOn) (maxL := 5) (by decide) rfl (Nat.le_of_ble_eq_true rfl) ?_
  intro p9 e9 s9 m9 below9 meth9 c9 H ls av9 Q9 hx hb hlocks hml hts hown hK hP hend hl
  have hown : s9.vm.findClass RX6 = some m9.cls := hown
  have hl : lv_has ls 5 [(0, .ref h), (1, .ref (a 1)), (2, .int (nI t)), (3, .int (nI p)), (4, .int (nI r))] := hl
  have hi6 : ∀ w ∈ u_ws RX6 TX6 14, w ∈ wsX6_goesOn := by decide +kernel
  have lk29 := hts (.fieldLink RX6 29 "StandInsModel" "reach" "[I") (by decide +kernel)
  refine lv_iload_n hx hb dX6_goesOn_0 rfl (lv_at hl 2 rfl) ?_
  refine lv_iload_n hx hb dX6_goesOn_1 rfl (lv_at hl 3 rfl) ?_
  refine lv_ishr hx hb dX6_goesOn_2 ?_
  refine lv_iconst (v := (1 : Int32)) hx hb dX6_goesOn_3 (by decide) ?_
  refine lv_iand hx hb dX6_goesOn_4 ?_
  refine lv_iconst (v := (1 : Int32)) hx hb dX6_goesOn_5 (by decide) ?_
  refine lv_icmp_eq (tgt := 32) hx hb dX6_goesOn_6 (by decide) (fun c_6 => ?_) (fun c_6 => ?_)
  · skip
    refine lv_iconst (v := (-1 : Int32)) hx hb dX6_goesOn_32 (by decide) ?_
    exact hend _ _ _ (by (unfold goM; first | rw [if_pos ((isIn_iff ht hp).mp c_6)] | rw [if_neg (fun z => c_6 ((isIn_iff ht hp).mpr z)), if_neg c_16] | rw [if_neg (fun z => c_6 ((isIn_iff ht hp).mpr z)), if_pos c_16, if_pos c_29n] | rw [if_neg (fun z => c_6 ((isIn_iff ht hp).mpr z)), if_pos c_16, if_pos (Int32.not_le.mp c_29)])) dX6_goesOn_33
  · skip
    refine lv_aload_n hx hb dX6_goesOn_9 rfl (lv_at hl 1 rfl) ?_
    refine lv_iload_n hx hb dX6_goesOn_10 rfl (lv_at hl 3 rfl) ?_
    refine lv_iload hx hb dX6_goesOn_11 (lv_at hl 4 rfl) ?_
    have hPc := P_sub (ws' := [((a 1), aI K 190 (M 1))]) hP [2] rfl
    refine xr_S (As := [.ref (a 1), .int (nI p), .int (nI r)]) (rest := []) ⟨hx, hb, hml, hown, hts⟩ (c_X6_canPlay l K (a 1) (M 1) p (by omega) r (by omega)) (va_cwS 3 hts gX6_goesOn_X6_canPlay rfl rfl rfl (by decide +kernel) ⟨Nat.le_of_ble_eq_true rfl, Nat.le_of_ble_eq_true rfl⟩) hK hPc rfl hl.1 rfl (Nat.le_of_ble_eq_true rfl) (Nat.le_of_ble_eq_true rfl) (Nat.le_of_ble_eq_true rfl) dX6_goesOn_13 ?_
    refine xb_if_eq (tgt := 32) hx hb dX6_goesOn_16 (by decide) (fun c_16 => ?_) (fun c_16 => ?_)
    · skip
      refine lv_iconst (v := (-1 : Int32)) hx hb dX6_goesOn_32 (by decide) ?_
      exact hend _ _ _ (by (unfold goM; first | rw [if_pos ((isIn_iff ht hp).mp c_6)] | rw [if_neg (fun z => c_6 ((isIn_iff ht hp).mpr z)), if_neg c_16] | rw [if_neg (fun z => c_6 ((isIn_iff ht hp).mpr z)), if_pos c_16, if_pos c_29n] | rw [if_neg (fun z => c_6 ((isIn_iff ht hp).mpr z)), if_pos c_16, if_pos (Int32.not_le.mp c_29)])) dX6_goesOn_33
    · skip
      refine lv_aload_n hx hb dX6_goesOn_19 rfl (lv_at hl 0 rfl) ?_
      refine va_get (ci := 6) (v := .ref (a 9)) (C := RX6) (T := TX6) (N := 14) hx hb hts hi6 hown hK hP 0 rfl rfl 9 (by decide) lk29 (fun _ h9 => h9) rfl dX6_goesOn_20 ?_
      refine lv_iload_n hx hb dX6_goesOn_23 rfl (lv_at hl 2 rfl) ?_
      refine lv_iconst (v := (1 : Int32)) hx hb dX6_goesOn_24 (by decide) ?_
      refine lv_iload_n hx hb dX6_goesOn_25 rfl (lv_at hl 3 rfl) ?_
      refine lv_ishl hx hb dX6_goesOn_26 ?_
      refine lv_ior hx hb dX6_goesOn_27 ?_
      refine xi_ld hx hb hK hP 7 (f := M 9) rfl (t ||| (2 ^ p)) (nn_or rfl (nn_shl1 rfl rfl (by omega))) (by exact set_lt (P := 10) ht hp) (by decide) dX6_goesOn_28 ?_
      refine lv_if_ge (tgt := 34) hx hb dX6_goesOn_29 (by decide) (fun c_29 => ?_) (fun c_29 => ?_)
      · skip
        have c_29n := Int32.not_lt.mpr c_29
        refine lv_aload_n hx hb dX6_goesOn_34 rfl (lv_at hl 1 rfl) ?_
        refine lv_iload_n hx hb dX6_goesOn_35 rfl (lv_at hl 3 rfl) ?_
        refine lv_iload hx hb dX6_goesOn_36 (lv_at hl 4 rfl) ?_
        have hPc := P_sub (ws' := [((a 1), aI K 190 (M 1))]) hP [2] rfl
        refine xr_S (As := [.ref (a 1), .int (nI p), .int (nI r)]) (rest := []) ⟨hx, hb, hml, hown, hts⟩ (c_X6_worth l K (a 1) (M 1) p (by omega) r (by omega)) (va_cwS 3 hts gX6_goesOn_X6_worth rfl rfl rfl (by decide +kernel) ⟨Nat.le_of_ble_eq_true rfl, Nat.le_of_ble_eq_true rfl⟩) hK hPc rfl hl.1 rfl (Nat.le_of_ble_eq_true rfl) (Nat.le_of_ble_eq_true rfl) (Nat.le_of_ble_eq_true rfl) dX6_goesOn_38 ?_
        refine lv_aload_n hx hb dX6_goesOn_41 rfl (lv_at hl 0 rfl) ?_
        refine va_get (ci := 6) (v := .ref (a 9)) (C := RX6) (T := TX6) (N := 14) hx hb hts hi6 hown hK hP 0 rfl rfl 9 (by decide) lk29 (fun _ h9 => h9) rfl dX6_goesOn_42 ?_
        refine lv_iload_n hx hb dX6_goesOn_45 rfl (lv_at hl 2 rfl) ?_
        refine lv_iconst (v := (1 : Int32)) hx hb dX6_goesOn_46 (by decide) ?_
        refine lv_iload_n hx hb dX6_goesOn_47 rfl (lv_at hl 3 rfl) ?_
        refine lv_ishl hx hb dX6_goesOn_48 ?_
        refine lv_ior hx hb dX6_goesOn_49 ?_
        refine xi_ld hx hb hK hP 7 (f := M 9) rfl (t ||| (2 ^ p)) (nn_or rfl (nn_shl1 rfl rfl (by omega))) (by exact set_lt (P := 10) ht hp) (by decide) dX6_goesOn_50 ?_
        refine lv_iadd hx hb dX6_goesOn_51 ?_
        exact hend _ _ _ (by (unfold goM; rw [if_neg (fun z => c_6 ((isIn_iff ht hp).mpr z)), if_pos c_16, if_neg (Int32.not_lt.mpr c_29)])) dX6_goesOn_52
      · skip
        have c_29n := Int32.not_le.mp c_29
        refine lv_iconst (v := (-1 : Int32)) hx hb dX6_goesOn_32 (by decide) ?_
        exact hend _ _ _ (by (unfold goM; first | rw [if_pos ((isIn_iff ht hp).mp c_6)] | rw [if_neg (fun z => c_6 ((isIn_iff ht hp).mpr z)), if_neg c_16] | rw [if_neg (fun z => c_6 ((isIn_iff ht hp).mpr z)), if_pos c_16, if_pos c_29n] | rw [if_neg (fun z => c_6 ((isIn_iff ht hp).mpr z)), if_pos c_16, if_pos (Int32.not_le.mp c_29)])) dX6_goesOn_33

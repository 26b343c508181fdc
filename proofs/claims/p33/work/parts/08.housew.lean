/-! the house: its changes -/
def filF (f : Nat → Int32) (v : Int32) (k : Nat) : Nat → Int32 := fun j => if j < k then v else f j
theorem filF_0 (f : Nat → Int32) (v : Int32) : f = filF f v 0 := by
  funext j
  simp [filF]
theorem filF_s (f : Nat → Int32) (v : Int32) (k : Nat) : upd (filF f v k) k v = filF f v (k + 1) := by
  funext j
  unfold upd filF
  by_cases e : j = k
  · subst e
    simp
  · simp only [if_neg e]
    by_cases c : j < k
    · rw [if_pos c, if_pos (by omega)]
    · rw [if_neg c, if_neg (by omega)]
def copF (f g : Nat → Int32) (k : Nat) : Nat → Int32 := fun j => if j < k then f j else g j
theorem copF_0 (f g : Nat → Int32) : g = copF f g 0 := by
  funext j
  simp [copF]
theorem copF_s (f g : Nat → Int32) (k : Nat) : upd (copF f g k) k (f k) = copF f g (k + 1) := by
  funext j
  unfold upd copF
  by_cases e : j = k
  · subst e
    simp
  · simp only [if_neg e]
    by_cases c : j < k
    · rw [if_pos c, if_pos (by omega)]
    · rw [if_neg c, if_neg (by omega)]
def hPutRole (S : HV) (R : Nat) (w : Int32) : HV := hput (hset S 0 R w) 10 (S 10 0 + 1)
def hPutPlayer (S : HV) : HV := hput S 11 (S 11 0 + 1)
def hAway (S : HV) (p d : Nat) : HV := hset S 7 p (S 12 0 + nI d)
def hPass (S : HV) (n : Nat) : HV := hput (hput (hrow S 6 (fun _ => 0)) 12 (S 12 0 + nI n)) 16 0
abbrev pPay (S : HV) (r p : Nat) : Int32 := if S 16 0 = 0 then (if S 1 r = nI p then S 9 1 + S 0 r * S 9 2 else S 9 1 + S 0 r * S 9 2 + S 9 3) else if S 2 r = nI p then (if S 1 r = nI p then S 9 1 + S 0 r * S 9 2 else S 9 1 + S 0 r * S 9 2 + S 9 3) else (if S 1 r = nI p then S 9 1 + S 0 r * S 9 2 else S 9 1 + S 0 r * S 9 2 + S 9 3) + S 9 4
def hPay (S : HV) (r p : Nat) : HV := hset (hset (hset (if S 1 r = nI p then S else hput S 15 (S 15 0 + 1)) 5 p (S 5 p + pPay S r p)) 8 p (S 8 p + 1)) 4 (r * 10 + p) (S 4 (r * 10 + p) + 1)

abbrev rm_X2_fill : Room := { frames := 0, cells := 0, slots := 0, locals := 0 }
set_option maxHeartbeats 4000000 in
set_option maxRecDepth 100000 in
theorem c_X2_fill (l : Launch) (K : KX) (q : Nat) (f : Nat → Int32) (n : Nat) (hn : n < 2 ^ 31) (v : Int32) (sz : Nat) : Met l yX2_fill wsX2_fill rm_X2_fill (va_Pc [.ref q, .int v] (xPre K ([(q, aI K n f)]) sz)) (va_Qv (fun _u : Unit => True) (fun _u t => xPost K (va_A ([(q, aI K n f)]) sz) ([(q, aI K n (fun _ => v))]) t) (va_A ([(q, aI K n f)]) sz)) 0 0 (va_A ([(q, aI K n f)]) sz) := by
  refine xw_startv (cc := cX2_fill) (maxL := 3) (by decide) rfl (Nat.le_of_ble_eq_true rfl) ?_
  intro p9 e9 s9 m9 below9 meth9 c9 H locs ls A av9 Q9 hx hb hlocks hml hname hts hown hK hP hD hS hA hsz hend hl
  have hown : s9.vm.findClass RX2 = some m9.cls := hown
  have hl : lv_has ls 3 [(0, .ref q), (1, .int v)] := hl
  refine lv_iconst (v := (0 : Int32)) hx hb dX2_fill_0 (by decide) ?_
  refine lv_istore_n (lv' := [(2, .int (0 : Int32)), (0, .ref q), (1, .int v)]) hx hb dX2_fill_1 rfl hl (by decide) rfl (fun ls hl => ?_)
  have lp2 : ∀ (n9 : Nat) (k : Nat) (H : Heap) (locs : List Loc) (ls : Array Slot), n - k < n9 → (k ≤ n) → va_P K.1 vwCl ([(q, aI K n (filF f v k))]) H → va_D A ([(q, aI K n (filF f v k))]) → va_S A s9.heap H locs → lv_has ls 3 [(0, .ref q), (1, .int v), (2, .int (nI k))] → W p9 l e9 rm_X2_fill s9 m9 av9 below9 meth9 c9 H locs 0 0 Q9 (F0 m9 2 ls []) := by
    intro n9
    induction n9 with
    | zero => intro k H locs ls hmu hk hP hD hS hl; exact absurd hmu (Nat.not_lt_zero _)
    | succ n9 ih2 =>
      intro k H locs ls hmu hk hP hD hS hl
      refine lv_iload_n hx hb dX2_fill_2 rfl (lv_at hl 2 rfl) ?_
      refine lv_aload_n hx hb dX2_fill_3 rfl (lv_at hl 0 rfl) ?_
      refine va_alen hx hb hK hP 0 0 rfl (ty := .int) rfl (v := nI n) rfl dX2_fill_4 ?_
      refine xn_icmp_ge (tgt := 18) hx hb k n rfl rfl (by omega) (by omega) dX2_fill_5 (by decide) (fun c_5 => ?_) (fun c_5 => ?_)
      · skip
        have hP := P_ext hP 0 (f := filF f v k) (g := fun _ => v) rfl (by intro j hj; simp only [filF]; rw [if_pos (by omega)])
        have hD : va_D A ([(q, aI K n (fun _ => v))]) := hD.set (p := 0) rfl
        exact hend _ _ _ _ _ _ () hP hD hS (Nat.le_of_ble_eq_true rfl) (Nat.le_of_ble_eq_true rfl) trivial dX2_fill_18
      · skip
        refine lv_aload_n hx hb dX2_fill_8 rfl (lv_at hl 0 rfl) ?_
        refine lv_iload_n hx hb dX2_fill_9 rfl (lv_at hl 2 rfl) ?_
        refine lv_iload_n hx hb dX2_fill_10 rfl (lv_at hl 1 rfl) ?_
        refine xi_st hx hb hK hP hD hS 0 (f := filF f v k) rfl k rfl (by omega) (by omega) ([(q, aI K n (upd (filF f v k) k v))]) rfl dX2_fill_11 (fun H locs hP hD hS => ?_)
        refine lv_iinc (v := nI (k + 1)) (lv' := [(2, .int (nI (k + 1))), (0, .ref q), (1, .int v)]) hx hb dX2_fill_12 hl (k := 2) rfl (nI_1 _) (by decide) rfl (fun ls hl => ?_)
        refine lv_goto (tgt := 2) hx hb dX2_fill_15 (by decide) ?_
        have eS0 : (upd (filF f v k) k v) = filF f v (k + 1) := by exact filF_s _ _ _
        have hP : va_P K.1 vwCl ([(q, aI K n (filF f v (k + 1)))]) H := by rw [← eS0]; exact hP
        have hD : va_D A ([(q, aI K n (filF f v (k + 1)))]) := by rw [← eS0]; exact hD
        exact ih2 (k + 1) _ _ _ (by omega) (by first | omega | assumption | first | rfl | (simp [c_5]; done) | omega) hP hD hS (lv_cons (lv_at hl 1 rfl) (lv_cons (lv_at hl 2 rfl) (lv_cons (lv_at hl 0 rfl) (lv_nil hl))))
  have eS0 : (f) = filF f v 0 := by exact filF_0 _ _
  have hP : va_P K.1 vwCl ([(q, aI K n (filF f v 0))]) H := by rw [← eS0]; exact hP
  have hD : va_D A ([(q, aI K n (filF f v 0))]) := by rw [← eS0]; exact hD
  exact lp2 _ 0 _ _ _ (Nat.lt_succ_self _) (by first | omega | assumption | first | rfl | (simp; done) | omega) hP hD hS (lv_cons (lv_at hl 1 rfl) (lv_cons (lv_at hl 2 rfl) (lv_cons (lv_is (lv_at hl 0 rfl) (show (0 : Int32) = nI 0 by first | rfl | (simp; done) | omega)) (lv_nil hl))))

abbrev rm_X2_copy : Room := { frames := 0, cells := 0, slots := 0, locals := 0 }
set_option maxHeartbeats 4000000 in
set_option maxRecDepth 100000 in
theorem c_X2_copy (l : Launch) (K : KX) (q1 : Nat) (f : Nat → Int32) (n : Nat) (hn : n < 2 ^ 31) (q2 : Nat) (g : Nat → Int32) (sz : Nat) : Met l yX2_copy wsX2_copy rm_X2_copy (va_Pc [.ref q1, .ref q2] (xPre K ([(q1, aI K n f)] ++ [(q2, aI K n g)]) sz)) (va_Qv (fun _u : Unit => True) (fun _u t => xPost K (va_A ([(q1, aI K n f)] ++ [(q2, aI K n g)]) sz) ([(q1, aI K n f)] ++ [(q2, aI K n f)]) t) (va_A ([(q1, aI K n f)] ++ [(q2, aI K n g)]) sz)) 0 0 (va_A ([(q1, aI K n f)] ++ [(q2, aI K n g)]) sz) := by
  refine xw_startv (cc := cX2_copy) (maxL := 3) (by decide) rfl (Nat.le_of_ble_eq_true rfl) ?_
  intro p9 e9 s9 m9 below9 meth9 c9 H locs ls A av9 Q9 hx hb hlocks hml hname hts hown hK hP hD hS hA hsz hend hl
  have hown : s9.vm.findClass RX2 = some m9.cls := hown
  have hl : lv_has ls 3 [(0, .ref q1), (1, .ref q2)] := hl
  refine lv_iconst (v := (0 : Int32)) hx hb dX2_copy_0 (by decide) ?_
  refine lv_istore_n (lv' := [(2, .int (0 : Int32)), (0, .ref q1), (1, .ref q2)]) hx hb dX2_copy_1 rfl hl (by decide) rfl (fun ls hl => ?_)
  have lp2 : ∀ (n9 : Nat) (k : Nat) (H : Heap) (locs : List Loc) (ls : Array Slot), n - k < n9 → (k ≤ n) → va_P K.1 vwCl ([(q1, aI K n f)] ++ [(q2, aI K n (copF f g k))]) H → va_D A ([(q1, aI K n f)] ++ [(q2, aI K n (copF f g k))]) → va_S A s9.heap H locs → lv_has ls 3 [(0, .ref q1), (1, .ref q2), (2, .int (nI k))] → W p9 l e9 rm_X2_copy s9 m9 av9 below9 meth9 c9 H locs 0 0 Q9 (F0 m9 2 ls []) := by
    intro n9
    induction n9 with
    | zero => intro k H locs ls hmu hk hP hD hS hl; exact absurd hmu (Nat.not_lt_zero _)
    | succ n9 ih2 =>
      intro k H locs ls hmu hk hP hD hS hl
      refine lv_iload_n hx hb dX2_copy_2 rfl (lv_at hl 2 rfl) ?_
      refine lv_aload_n hx hb dX2_copy_3 rfl (lv_at hl 0 rfl) ?_
      refine va_alen hx hb hK hP 0 0 rfl (ty := .int) rfl (v := nI n) rfl dX2_copy_4 ?_
      refine xn_icmp_ge (tgt := 26) hx hb k n rfl rfl (by omega) (by omega) dX2_copy_5 (by decide) (fun c_5 => ?_) (fun c_5 => ?_)
      · skip
        have hP := P_ext hP 1 (f := copF f g k) (g := f) rfl (by intro j hj; simp only [copF]; rw [if_pos (by omega)])
        have hD : va_D A ([(q1, aI K n f)] ++ [(q2, aI K n f)]) := hD.set (p := 1) rfl
        exact hend _ _ _ _ _ _ () hP hD hS (Nat.le_of_ble_eq_true rfl) (Nat.le_of_ble_eq_true rfl) trivial dX2_copy_26
      · skip
        refine lv_iload_n hx hb dX2_copy_8 rfl (lv_at hl 2 rfl) ?_
        refine lv_aload_n hx hb dX2_copy_9 rfl (lv_at hl 1 rfl) ?_
        refine va_alen hx hb hK hP 1 0 rfl (ty := .int) rfl (v := nI n) rfl dX2_copy_10 ?_
        refine xn_icmp_ge (tgt := 26) hx hb k n rfl rfl (by omega) (by omega) dX2_copy_11 (by decide) (fun c_11 => ?_) (fun c_11 => ?_)
        · omega
        · skip
          refine lv_aload_n hx hb dX2_copy_14 rfl (lv_at hl 1 rfl) ?_
          refine lv_iload_n hx hb dX2_copy_15 rfl (lv_at hl 2 rfl) ?_
          refine lv_aload_n hx hb dX2_copy_16 rfl (lv_at hl 0 rfl) ?_
          refine lv_iload_n hx hb dX2_copy_17 rfl (lv_at hl 2 rfl) ?_
          refine xi_ld hx hb hK hP 0 (f := f) rfl k rfl (by omega) (by omega) dX2_copy_18 ?_
          refine xi_st hx hb hK hP hD hS 1 (f := copF f g k) rfl k rfl (by omega) (by omega) ([(q1, aI K n f)] ++ [(q2, aI K n (upd (copF f g k) k (f k)))]) rfl dX2_copy_19 (fun H locs hP hD hS => ?_)
          refine lv_iinc (v := nI (k + 1)) (lv' := [(2, .int (nI (k + 1))), (0, .ref q1), (1, .ref q2)]) hx hb dX2_copy_20 hl (k := 2) rfl (nI_1 _) (by decide) rfl (fun ls hl => ?_)
          refine lv_goto (tgt := 2) hx hb dX2_copy_23 (by decide) ?_
          have eS1 : (upd (copF f g k) k (f k)) = copF f g (k + 1) := by exact copF_s _ _ _
          have hP : va_P K.1 vwCl ([(q1, aI K n f)] ++ [(q2, aI K n (copF f g (k + 1)))]) H := by rw [← eS1]; exact hP
          have hD : va_D A ([(q1, aI K n f)] ++ [(q2, aI K n (copF f g (k + 1)))]) := by rw [← eS1]; exact hD
          exact ih2 (k + 1) _ _ _ (by omega) (by first | omega | assumption | first | rfl | (simp [c_5, c_11]; done) | omega) hP hD hS (lv_cons (lv_at hl 1 rfl) (lv_cons (lv_at hl 2 rfl) (lv_cons (lv_at hl 0 rfl) (lv_nil hl))))
  have eS1 : (g) = copF f g 0 := by exact copF_0 _ _
  have hP : va_P K.1 vwCl ([(q1, aI K n f)] ++ [(q2, aI K n (copF f g 0))]) H := by rw [← eS1]; exact hP
  have hD : va_D A ([(q1, aI K n f)] ++ [(q2, aI K n (copF f g 0))]) := by rw [← eS1]; exact hD
  exact lp2 _ 0 _ _ _ (Nat.lt_succ_self _) (by first | omega | assumption | first | rfl | (simp; done) | omega) hP hD hS (lv_cons (lv_at hl 1 rfl) (lv_cons (lv_at hl 2 rfl) (lv_cons (lv_is (lv_at hl 0 rfl) (show (0 : Int32) = nI 0 by first | rfl | (simp; done) | omega)) (lv_nil hl))))

abbrev rm_X2_copyFrom : Room := { frames := 1, cells := 0, slots := 0, locals := 22 }
set_option maxHeartbeats 4000000 in
set_option maxRecDepth 100000 in
theorem c_X2_copyFrom (l : Launch) (K : KX) (h : Nat) (a : Nat → Nat) (S : HV) (h2 : Nat) (a2 : Nat → Nat) (S2 : HV) (hz : S2 16 0 = 0 ∨ S2 16 0 = 1) (sz : Nat) : Met l yX2_copyFrom wsX2_copyFrom rm_X2_copyFrom (va_Pc [.ref h, .ref h2] (xPre K (hw K h a S ++ hw K h2 a2 S2) sz)) (va_Qv (fun _u : Unit => True) (fun _u t => xPost K (va_A (hw K h a S ++ hw K h2 a2 S2) sz) (hw K h a S2 ++ hw K h2 a2 S2) t) (va_A (hw K h a S ++ hw K h2 a2 S2) sz)) 0 0 (va_A (hw K h a S ++ hw K h2 a2 S2) sz) := by
  refine xw_startv (cc := cX2_copyFrom) (maxL := 2) (by decide) rfl (Nat.le_of_ble_eq_true rfl) ?_
  intro p9 e9 s9 m9 below9 meth9 c9 H locs ls A av9 Q9 hx hb hlocks hml hname hts hown hK hP hD hS hA hsz hend hl
  have hown : s9.vm.findClass RX2 = some m9.cls := hown
  have hl : lv_has ls 2 [(0, .ref h), (1, .ref h2)] := hl
  have hi2 : ∀ w ∈ u_ws RX2 TX2 17, w ∈ wsX2_copyFrom := by decide +kernel
  have lk9 := hts (.fieldLink RX2 9 "StandIns$House" "weights" "[I") (by decide +kernel)
  have lk15 := hts (.fieldLink RX2 15 "StandIns$House" "firstPlayers" "[I") (by decide +kernel)
  have lk18 := hts (.fieldLink RX2 18 "StandIns$House" "postedPlayers" "[I") (by decide +kernel)
  have lk21 := hts (.fieldLink RX2 21 "StandIns$House" "degrees" "[I") (by decide +kernel)
  have lk24 := hts (.fieldLink RX2 24 "StandIns$House" "times" "[I") (by decide +kernel)
  have lk27 := hts (.fieldLink RX2 27 "StandIns$House" "pays" "[I") (by decide +kernel)
  have lk30 := hts (.fieldLink RX2 30 "StandIns$House" "rows" "[I") (by decide +kernel)
  have lk33 := hts (.fieldLink RX2 33 "StandIns$House" "backDays" "[I") (by decide +kernel)
  have lk36 := hts (.fieldLink RX2 36 "StandIns$House" "shows" "[I") (by decide +kernel)
  have lk39 := hts (.fieldLink RX2 39 "StandIns$House" "settings" "[I") (by decide +kernel)
  have lk52 := hts (.fieldLink RX2 52 "StandIns$House" "roles" "I") (by decide +kernel)
  have lk56 := hts (.fieldLink RX2 56 "StandIns$House" "players" "I") (by decide +kernel)
  have lk59 := hts (.fieldLink RX2 59 "StandIns$House" "today" "I") (by decide +kernel)
  have lk62 := hts (.fieldLink RX2 62 "StandIns$House" "performed" "I") (by decide +kernel)
  have lk65 := hts (.fieldLink RX2 65 "StandIns$House" "calledOff" "I") (by decide +kernel)
  have lk68 := hts (.fieldLink RX2 68 "StandIns$House" "standIns" "I") (by decide +kernel)
  have lk71 := hts (.fieldLink RX2 71 "StandIns$House" "posted" "Z") (by decide +kernel)
  refine lv_aload_n hx hb dX2_copyFrom_0 rfl (lv_at hl 1 rfl) ?_
  refine va_get (ci := 2) (v := .ref (a2 0)) (C := RX2) (T := TX2) (N := 17) hx hb hts hi2 hown hK hP 11 rfl rfl 0 (by decide) lk9 (fun _ h9 => h9) rfl dX2_copyFrom_1 ?_
  refine lv_aload_n hx hb dX2_copyFrom_4 rfl (lv_at hl 0 rfl) ?_
  refine va_get (ci := 2) (v := .ref (a 0)) (C := RX2) (T := TX2) (N := 17) hx hb hts hi2 hown hK hP 0 rfl rfl 0 (by decide) lk9 (fun _ h9 => h9) rfl dX2_copyFrom_5 ?_
  refine xw_Sv (As := [.ref (a2 0), .ref (a 0)]) (rest := []) (wc := [((a2 0), aI K 6 (S2 0))] ++ [((a 0), aI K 6 (S 0))]) (wr := (List.filterMap (fun i => (hw K h a S ++ hw K h2 a2 S2 : va_W)[i]?) ([0, 2, 3, 4, 5, 6, 7, 8, 9, 10, 11, 13, 14, 15, 16, 17, 18, 19, 20, 21] : List Nat))) ⟨hx, hb, hml, hown, hts⟩ (c_X2_copy l K (a2 0) (S2 0) 6 (by decide) (a 0) (S 0) H.size) (va_cwS 2 hts gX2_copyFrom_X2_copy rfl rfl rfl (by decide +kernel) ⟨Nat.le_of_ble_eq_true rfl, Nat.le_of_ble_eq_true rfl⟩) hK hP hD hS hA [12, 1] [0, 2, 3, 4, 5, 6, 7, 8, 9, 10, 11, 13, 14, 15, 16, 17, 18, 19, 20, 21] [0, 21, 1, 2, 3, 4, 5, 6, 7, 8, 9, 10, 20, 11, 12, 13, 14, 15, 16, 17, 18, 19] rfl rfl rfl (fun _u => hw K h a (hrow S 0 (S2 0)) ++ hw K h2 a2 (hrow S2 0 (S2 0))) (fun _ => rfl) rfl hl.1 rfl (Nat.le_of_ble_eq_true rfl) (Nat.le_of_ble_eq_true rfl) (Nat.le_of_ble_eq_true rfl) dX2_copyFrom_8 (fun _ H locs hq8 hP hD hS => ?_)
  have hP : va_P K.1 vwCl (hw K h a (hrow S 0 (S2 0)) ++ hw K h2 a2 (hrow S2 0 (S2 0))) H := hP
  have hD : va_D A (hw K h a (hrow S 0 (S2 0)) ++ hw K h2 a2 (hrow S2 0 (S2 0))) := hD
  refine lv_aload_n hx hb dX2_copyFrom_11 rfl (lv_at hl 1 rfl) ?_
  refine va_get (ci := 2) (v := .ref (a2 1)) (C := RX2) (T := TX2) (N := 17) hx hb hts hi2 hown hK hP 11 rfl rfl 1 (by decide) lk15 (fun _ h9 => h9) rfl dX2_copyFrom_12 ?_
  refine lv_aload_n hx hb dX2_copyFrom_15 rfl (lv_at hl 0 rfl) ?_
  refine va_get (ci := 2) (v := .ref (a 1)) (C := RX2) (T := TX2) (N := 17) hx hb hts hi2 hown hK hP 0 rfl rfl 1 (by decide) lk15 (fun _ h9 => h9) rfl dX2_copyFrom_16 ?_
  refine xw_Sv (As := [.ref (a2 1), .ref (a 1)]) (rest := []) (wc := [((a2 1), aI K 6 (S2 1))] ++ [((a 1), aI K 6 (S 1))]) (wr := (List.filterMap (fun i => (hw K h a (hrow S 0 (S2 0)) ++ hw K h2 a2 (hrow S2 0 (S2 0)) : va_W)[i]?) ([0, 1, 3, 4, 5, 6, 7, 8, 9, 10, 11, 12, 14, 15, 16, 17, 18, 19, 20, 21] : List Nat))) ⟨hx, hb, hml, hown, hts⟩ (c_X2_copy l K (a2 1) (S2 1) 6 (by decide) (a 1) (S 1) H.size) (va_cwS 2 hts gX2_copyFrom_X2_copy rfl rfl rfl (by decide +kernel) ⟨Nat.le_of_ble_eq_true rfl, Nat.le_of_ble_eq_true rfl⟩) hK hP hD hS hA [13, 2] [0, 1, 3, 4, 5, 6, 7, 8, 9, 10, 11, 12, 14, 15, 16, 17, 18, 19, 20, 21] [0, 1, 21, 2, 3, 4, 5, 6, 7, 8, 9, 10, 11, 20, 12, 13, 14, 15, 16, 17, 18, 19] rfl rfl rfl (fun _u => hw K h a (hrow (hrow S 0 (S2 0)) 1 (S2 1)) ++ hw K h2 a2 (hrow (hrow S2 0 (S2 0)) 1 (S2 1))) (fun _ => rfl) rfl hl.1 rfl (Nat.le_of_ble_eq_true rfl) (Nat.le_of_ble_eq_true rfl) (Nat.le_of_ble_eq_true rfl) dX2_copyFrom_19 (fun _ H locs hq19 hP hD hS => ?_)
  have hP : va_P K.1 vwCl (hw K h a (hrow (hrow S 0 (S2 0)) 1 (S2 1)) ++ hw K h2 a2 (hrow (hrow S2 0 (S2 0)) 1 (S2 1))) H := hP
  have hD : va_D A (hw K h a (hrow (hrow S 0 (S2 0)) 1 (S2 1)) ++ hw K h2 a2 (hrow (hrow S2 0 (S2 0)) 1 (S2 1))) := hD
  refine lv_aload_n hx hb dX2_copyFrom_22 rfl (lv_at hl 1 rfl) ?_
  refine va_get (ci := 2) (v := .ref (a2 2)) (C := RX2) (T := TX2) (N := 17) hx hb hts hi2 hown hK hP 11 rfl rfl 2 (by decide) lk18 (fun _ h9 => h9) rfl dX2_copyFrom_23 ?_
  refine lv_aload_n hx hb dX2_copyFrom_26 rfl (lv_at hl 0 rfl) ?_
  refine va_get (ci := 2) (v := .ref (a 2)) (C := RX2) (T := TX2) (N := 17) hx hb hts hi2 hown hK hP 0 rfl rfl 2 (by decide) lk18 (fun _ h9 => h9) rfl dX2_copyFrom_27 ?_
  refine xw_Sv (As := [.ref (a2 2), .ref (a 2)]) (rest := []) (wc := [((a2 2), aI K 6 (S2 2))] ++ [((a 2), aI K 6 (S 2))]) (wr := (List.filterMap (fun i => (hw K h a (hrow (hrow S 0 (S2 0)) 1 (S2 1)) ++ hw K h2 a2 (hrow (hrow S2 0 (S2 0)) 1 (S2 1)) : va_W)[i]?) ([0, 1, 2, 4, 5, 6, 7, 8, 9, 10, 11, 12, 13, 15, 16, 17, 18, 19, 20, 21] : List Nat))) ⟨hx, hb, hml, hown, hts⟩ (c_X2_copy l K (a2 2) (S2 2) 6 (by decide) (a 2) (S 2) H.size) (va_cwS 2 hts gX2_copyFrom_X2_copy rfl rfl rfl (by decide +kernel) ⟨Nat.le_of_ble_eq_true rfl, Nat.le_of_ble_eq_true rfl⟩) hK hP hD hS hA [14, 3] [0, 1, 2, 4, 5, 6, 7, 8, 9, 10, 11, 12, 13, 15, 16, 17, 18, 19, 20, 21] [0, 1, 2, 21, 3, 4, 5, 6, 7, 8, 9, 10, 11, 12, 20, 13, 14, 15, 16, 17, 18, 19] rfl rfl rfl (fun _u => hw K h a (hrow (hrow (hrow S 0 (S2 0)) 1 (S2 1)) 2 (S2 2)) ++ hw K h2 a2 (hrow (hrow (hrow S2 0 (S2 0)) 1 (S2 1)) 2 (S2 2))) (fun _ => rfl) rfl hl.1 rfl (Nat.le_of_ble_eq_true rfl) (Nat.le_of_ble_eq_true rfl) (Nat.le_of_ble_eq_true rfl) dX2_copyFrom_30 (fun _ H locs hq30 hP hD hS => ?_)
  have hP : va_P K.1 vwCl (hw K h a (hrow (hrow (hrow S 0 (S2 0)) 1 (S2 1)) 2 (S2 2)) ++ hw K h2 a2 (hrow (hrow (hrow S2 0 (S2 0)) 1 (S2 1)) 2 (S2 2))) H := hP
  have hD : va_D A (hw K h a (hrow (hrow (hrow S 0 (S2 0)) 1 (S2 1)) 2 (S2 2)) ++ hw K h2 a2 (hrow (hrow (hrow S2 0 (S2 0)) 1 (S2 1)) 2 (S2 2))) := hD
  refine lv_aload_n hx hb dX2_copyFrom_33 rfl (lv_at hl 1 rfl) ?_
  refine va_get (ci := 2) (v := .ref (a2 3)) (C := RX2) (T := TX2) (N := 17) hx hb hts hi2 hown hK hP 11 rfl rfl 3 (by decide) lk21 (fun _ h9 => h9) rfl dX2_copyFrom_34 ?_
  refine lv_aload_n hx hb dX2_copyFrom_37 rfl (lv_at hl 0 rfl) ?_
  refine va_get (ci := 2) (v := .ref (a 3)) (C := RX2) (T := TX2) (N := 17) hx hb hts hi2 hown hK hP 0 rfl rfl 3 (by decide) lk21 (fun _ h9 => h9) rfl dX2_copyFrom_38 ?_
  refine xw_Sv (As := [.ref (a2 3), .ref (a 3)]) (rest := []) (wc := [((a2 3), aI K 60 (S2 3))] ++ [((a 3), aI K 60 (S 3))]) (wr := (List.filterMap (fun i => (hw K h a (hrow (hrow (hrow S 0 (S2 0)) 1 (S2 1)) 2 (S2 2)) ++ hw K h2 a2 (hrow (hrow (hrow S2 0 (S2 0)) 1 (S2 1)) 2 (S2 2)) : va_W)[i]?) ([0, 1, 2, 3, 5, 6, 7, 8, 9, 10, 11, 12, 13, 14, 16, 17, 18, 19, 20, 21] : List Nat))) ⟨hx, hb, hml, hown, hts⟩ (c_X2_copy l K (a2 3) (S2 3) 60 (by decide) (a 3) (S 3) H.size) (va_cwS 2 hts gX2_copyFrom_X2_copy rfl rfl rfl (by decide +kernel) ⟨Nat.le_of_ble_eq_true rfl, Nat.le_of_ble_eq_true rfl⟩) hK hP hD hS hA [15, 4] [0, 1, 2, 3, 5, 6, 7, 8, 9, 10, 11, 12, 13, 14, 16, 17, 18, 19, 20, 21] [0, 1, 2, 3, 21, 4, 5, 6, 7, 8, 9, 10, 11, 12, 13, 20, 14, 15, 16, 17, 18, 19] rfl rfl rfl (fun _u => hw K h a (hrow (hrow (hrow (hrow S 0 (S2 0)) 1 (S2 1)) 2 (S2 2)) 3 (S2 3)) ++ hw K h2 a2 (hrow (hrow (hrow (hrow S2 0 (S2 0)) 1 (S2 1)) 2 (S2 2)) 3 (S2 3))) (fun _ => rfl) rfl hl.1 rfl (Nat.le_of_ble_eq_true rfl) (Nat.le_of_ble_eq_true rfl) (Nat.le_of_ble_eq_true rfl) dX2_copyFrom_41 (fun _ H locs hq41 hP hD hS => ?_)
  have hP : va_P K.1 vwCl (hw K h a (hrow (hrow (hrow (hrow S 0 (S2 0)) 1 (S2 1)) 2 (S2 2)) 3 (S2 3)) ++ hw K h2 a2 (hrow (hrow (hrow (hrow S2 0 (S2 0)) 1 (S2 1)) 2 (S2 2)) 3 (S2 3))) H := hP
  have hD : va_D A (hw K h a (hrow (hrow (hrow (hrow S 0 (S2 0)) 1 (S2 1)) 2 (S2 2)) 3 (S2 3)) ++ hw K h2 a2 (hrow (hrow (hrow (hrow S2 0 (S2 0)) 1 (S2 1)) 2 (S2 2)) 3 (S2 3))) := hD
  refine lv_aload_n hx hb dX2_copyFrom_44 rfl (lv_at hl 1 rfl) ?_
  refine va_get (ci := 2) (v := .ref (a2 4)) (C := RX2) (T := TX2) (N := 17) hx hb hts hi2 hown hK hP 11 rfl rfl 4 (by decide) lk24 (fun _ h9 => h9) rfl dX2_copyFrom_45 ?_
  refine lv_aload_n hx hb dX2_copyFrom_48 rfl (lv_at hl 0 rfl) ?_
  refine va_get (ci := 2) (v := .ref (a 4)) (C := RX2) (T := TX2) (N := 17) hx hb hts hi2 hown hK hP 0 rfl rfl 4 (by decide) lk24 (fun _ h9 => h9) rfl dX2_copyFrom_49 ?_
  refine xw_Sv (As := [.ref (a2 4), .ref (a 4)]) (rest := []) (wc := [((a2 4), aI K 60 (S2 4))] ++ [((a 4), aI K 60 (S 4))]) (wr := (List.filterMap (fun i => (hw K h a (hrow (hrow (hrow (hrow S 0 (S2 0)) 1 (S2 1)) 2 (S2 2)) 3 (S2 3)) ++ hw K h2 a2 (hrow (hrow (hrow (hrow S2 0 (S2 0)) 1 (S2 1)) 2 (S2 2)) 3 (S2 3)) : va_W)[i]?) ([0, 1, 2, 3, 4, 6, 7, 8, 9, 10, 11, 12, 13, 14, 15, 17, 18, 19, 20, 21] : List Nat))) ⟨hx, hb, hml, hown, hts⟩ (c_X2_copy l K (a2 4) (S2 4) 60 (by decide) (a 4) (S 4) H.size) (va_cwS 2 hts gX2_copyFrom_X2_copy rfl rfl rfl (by decide +kernel) ⟨Nat.le_of_ble_eq_true rfl, Nat.le_of_ble_eq_true rfl⟩) hK hP hD hS hA [16, 5] [0, 1, 2, 3, 4, 6, 7, 8, 9, 10, 11, 12, 13, 14, 15, 17, 18, 19, 20, 21] [0, 1, 2, 3, 4, 21, 5, 6, 7, 8, 9, 10, 11, 12, 13, 14, 20, 15, 16, 17, 18, 19] rfl rfl rfl (fun _u => hw K h a (hrow (hrow (hrow (hrow (hrow S 0 (S2 0)) 1 (S2 1)) 2 (S2 2)) 3 (S2 3)) 4 (S2 4)) ++ hw K h2 a2 (hrow (hrow (hrow (hrow (hrow S2 0 (S2 0)) 1 (S2 1)) 2 (S2 2)) 3 (S2 3)) 4 (S2 4))) (fun _ => rfl) rfl hl.1 rfl (Nat.le_of_ble_eq_true rfl) (Nat.le_of_ble_eq_true rfl) (Nat.le_of_ble_eq_true rfl) dX2_copyFrom_52 (fun _ H locs hq52 hP hD hS => ?_)
  have hP : va_P K.1 vwCl (hw K h a (hrow (hrow (hrow (hrow (hrow S 0 (S2 0)) 1 (S2 1)) 2 (S2 2)) 3 (S2 3)) 4 (S2 4)) ++ hw K h2 a2 (hrow (hrow (hrow (hrow (hrow S2 0 (S2 0)) 1 (S2 1)) 2 (S2 2)) 3 (S2 3)) 4 (S2 4))) H := hP
  have hD : va_D A (hw K h a (hrow (hrow (hrow (hrow (hrow S 0 (S2 0)) 1 (S2 1)) 2 (S2 2)) 3 (S2 3)) 4 (S2 4)) ++ hw K h2 a2 (hrow (hrow (hrow (hrow (hrow S2 0 (S2 0)) 1 (S2 1)) 2 (S2 2)) 3 (S2 3)) 4 (S2 4))) := hD
  refine lv_aload_n hx hb dX2_copyFrom_55 rfl (lv_at hl 1 rfl) ?_
  refine va_get (ci := 2) (v := .ref (a2 5)) (C := RX2) (T := TX2) (N := 17) hx hb hts hi2 hown hK hP 11 rfl rfl 5 (by decide) lk27 (fun _ h9 => h9) rfl dX2_copyFrom_56 ?_
  refine lv_aload_n hx hb dX2_copyFrom_59 rfl (lv_at hl 0 rfl) ?_
  refine va_get (ci := 2) (v := .ref (a 5)) (C := RX2) (T := TX2) (N := 17) hx hb hts hi2 hown hK hP 0 rfl rfl 5 (by decide) lk27 (fun _ h9 => h9) rfl dX2_copyFrom_60 ?_
  refine xw_Sv (As := [.ref (a2 5), .ref (a 5)]) (rest := []) (wc := [((a2 5), aI K 10 (S2 5))] ++ [((a 5), aI K 10 (S 5))]) (wr := (List.filterMap (fun i => (hw K h a (hrow (hrow (hrow (hrow (hrow S 0 (S2 0)) 1 (S2 1)) 2 (S2 2)) 3 (S2 3)) 4 (S2 4)) ++ hw K h2 a2 (hrow (hrow (hrow (hrow (hrow S2 0 (S2 0)) 1 (S2 1)) 2 (S2 2)) 3 (S2 3)) 4 (S2 4)) : va_W)[i]?) ([0, 1, 2, 3, 4, 5, 7, 8, 9, 10, 11, 12, 13, 14, 15, 16, 18, 19, 20, 21] : List Nat))) ⟨hx, hb, hml, hown, hts⟩ (c_X2_copy l K (a2 5) (S2 5) 10 (by decide) (a 5) (S 5) H.size) (va_cwS 2 hts gX2_copyFrom_X2_copy rfl rfl rfl (by decide +kernel) ⟨Nat.le_of_ble_eq_true rfl, Nat.le_of_ble_eq_true rfl⟩) hK hP hD hS hA [17, 6] [0, 1, 2, 3, 4, 5, 7, 8, 9, 10, 11, 12, 13, 14, 15, 16, 18, 19, 20, 21] [0, 1, 2, 3, 4, 5, 21, 6, 7, 8, 9, 10, 11, 12, 13, 14, 15, 20, 16, 17, 18, 19] rfl rfl rfl (fun _u => hw K h a (hrow (hrow (hrow (hrow (hrow (hrow S 0 (S2 0)) 1 (S2 1)) 2 (S2 2)) 3 (S2 3)) 4 (S2 4)) 5 (S2 5)) ++ hw K h2 a2 (hrow (hrow (hrow (hrow (hrow (hrow S2 0 (S2 0)) 1 (S2 1)) 2 (S2 2)) 3 (S2 3)) 4 (S2 4)) 5 (S2 5))) (fun _ => rfl) rfl hl.1 rfl (Nat.le_of_ble_eq_true rfl) (Nat.le_of_ble_eq_true rfl) (Nat.le_of_ble_eq_true rfl) dX2_copyFrom_63 (fun _ H locs hq63 hP hD hS => ?_)
  have hP : va_P K.1 vwCl (hw K h a (hrow (hrow (hrow (hrow (hrow (hrow S 0 (S2 0)) 1 (S2 1)) 2 (S2 2)) 3 (S2 3)) 4 (S2 4)) 5 (S2 5)) ++ hw K h2 a2 (hrow (hrow (hrow (hrow (hrow (hrow S2 0 (S2 0)) 1 (S2 1)) 2 (S2 2)) 3 (S2 3)) 4 (S2 4)) 5 (S2 5))) H := hP
  have hD : va_D A (hw K h a (hrow (hrow (hrow (hrow (hrow (hrow S 0 (S2 0)) 1 (S2 1)) 2 (S2 2)) 3 (S2 3)) 4 (S2 4)) 5 (S2 5)) ++ hw K h2 a2 (hrow (hrow (hrow (hrow (hrow (hrow S2 0 (S2 0)) 1 (S2 1)) 2 (S2 2)) 3 (S2 3)) 4 (S2 4)) 5 (S2 5))) := hD
  refine lv_aload_n hx hb dX2_copyFrom_66 rfl (lv_at hl 1 rfl) ?_
  refine va_get (ci := 2) (v := .ref (a2 6)) (C := RX2) (T := TX2) (N := 17) hx hb hts hi2 hown hK hP 11 rfl rfl 6 (by decide) lk30 (fun _ h9 => h9) rfl dX2_copyFrom_67 ?_
  refine lv_aload_n hx hb dX2_copyFrom_70 rfl (lv_at hl 0 rfl) ?_
  refine va_get (ci := 2) (v := .ref (a 6)) (C := RX2) (T := TX2) (N := 17) hx hb hts hi2 hown hK hP 0 rfl rfl 6 (by decide) lk30 (fun _ h9 => h9) rfl dX2_copyFrom_71 ?_
  refine xw_Sv (As := [.ref (a2 6), .ref (a 6)]) (rest := []) (wc := [((a2 6), aI K 10 (S2 6))] ++ [((a 6), aI K 10 (S 6))]) (wr := (List.filterMap (fun i => (hw K h a (hrow (hrow (hrow (hrow (hrow (hrow S 0 (S2 0)) 1 (S2 1)) 2 (S2 2)) 3 (S2 3)) 4 (S2 4)) 5 (S2 5)) ++ hw K h2 a2 (hrow (hrow (hrow (hrow (hrow (hrow S2 0 (S2 0)) 1 (S2 1)) 2 (S2 2)) 3 (S2 3)) 4 (S2 4)) 5 (S2 5)) : va_W)[i]?) ([0, 1, 2, 3, 4, 5, 6, 8, 9, 10, 11, 12, 13, 14, 15, 16, 17, 19, 20, 21] : List Nat))) ⟨hx, hb, hml, hown, hts⟩ (c_X2_copy l K (a2 6) (S2 6) 10 (by decide) (a 6) (S 6) H.size) (va_cwS 2 hts gX2_copyFrom_X2_copy rfl rfl rfl (by decide +kernel) ⟨Nat.le_of_ble_eq_true rfl, Nat.le_of_ble_eq_true rfl⟩) hK hP hD hS hA [18, 7] [0, 1, 2, 3, 4, 5, 6, 8, 9, 10, 11, 12, 13, 14, 15, 16, 17, 19, 20, 21] [0, 1, 2, 3, 4, 5, 6, 21, 7, 8, 9, 10, 11, 12, 13, 14, 15, 16, 20, 17, 18, 19] rfl rfl rfl (fun _u => hw K h a (hrow (hrow (hrow (hrow (hrow (hrow (hrow S 0 (S2 0)) 1 (S2 1)) 2 (S2 2)) 3 (S2 3)) 4 (S2 4)) 5 (S2 5)) 6 (S2 6)) ++ hw K h2 a2 (hrow (hrow (hrow (hrow (hrow (hrow (hrow S2 0 (S2 0)) 1 (S2 1)) 2 (S2 2)) 3 (S2 3)) 4 (S2 4)) 5 (S2 5)) 6 (S2 6))) (fun _ => rfl) rfl hl.1 rfl (Nat.le_of_ble_eq_true rfl) (Nat.le_of_ble_eq_true rfl) (Nat.le_of_ble_eq_true rfl) dX2_copyFrom_74 (fun _ H locs hq74 hP hD hS => ?_)
  have hP : va_P K.1 vwCl (hw K h a (hrow (hrow (hrow (hrow (hrow (hrow (hrow S 0 (S2 0)) 1 (S2 1)) 2 (S2 2)) 3 (S2 3)) 4 (S2 4)) 5 (S2 5)) 6 (S2 6)) ++ hw K h2 a2 (hrow (hrow (hrow (hrow (hrow (hrow (hrow S2 0 (S2 0)) 1 (S2 1)) 2 (S2 2)) 3 (S2 3)) 4 (S2 4)) 5 (S2 5)) 6 (S2 6))) H := hP
  have hD : va_D A (hw K h a (hrow (hrow (hrow (hrow (hrow (hrow (hrow S 0 (S2 0)) 1 (S2 1)) 2 (S2 2)) 3 (S2 3)) 4 (S2 4)) 5 (S2 5)) 6 (S2 6)) ++ hw K h2 a2 (hrow (hrow (hrow (hrow (hrow (hrow (hrow S2 0 (S2 0)) 1 (S2 1)) 2 (S2 2)) 3 (S2 3)) 4 (S2 4)) 5 (S2 5)) 6 (S2 6))) := hD
  refine lv_aload_n hx hb dX2_copyFrom_77 rfl (lv_at hl 1 rfl) ?_
  refine va_get (ci := 2) (v := .ref (a2 7)) (C := RX2) (T := TX2) (N := 17) hx hb hts hi2 hown hK hP 11 rfl rfl 7 (by decide) lk33 (fun _ h9 => h9) rfl dX2_copyFrom_78 ?_
  refine lv_aload_n hx hb dX2_copyFrom_81 rfl (lv_at hl 0 rfl) ?_
  refine va_get (ci := 2) (v := .ref (a 7)) (C := RX2) (T := TX2) (N := 17) hx hb hts hi2 hown hK hP 0 rfl rfl 7 (by decide) lk33 (fun _ h9 => h9) rfl dX2_copyFrom_82 ?_
  refine xw_Sv (As := [.ref (a2 7), .ref (a 7)]) (rest := []) (wc := [((a2 7), aI K 10 (S2 7))] ++ [((a 7), aI K 10 (S 7))]) (wr := (List.filterMap (fun i => (hw K h a (hrow (hrow (hrow (hrow (hrow (hrow (hrow S 0 (S2 0)) 1 (S2 1)) 2 (S2 2)) 3 (S2 3)) 4 (S2 4)) 5 (S2 5)) 6 (S2 6)) ++ hw K h2 a2 (hrow (hrow (hrow (hrow (hrow (hrow (hrow S2 0 (S2 0)) 1 (S2 1)) 2 (S2 2)) 3 (S2 3)) 4 (S2 4)) 5 (S2 5)) 6 (S2 6)) : va_W)[i]?) ([0, 1, 2, 3, 4, 5, 6, 7, 9, 10, 11, 12, 13, 14, 15, 16, 17, 18, 20, 21] : List Nat))) ⟨hx, hb, hml, hown, hts⟩ (c_X2_copy l K (a2 7) (S2 7) 10 (by decide) (a 7) (S 7) H.size) (va_cwS 2 hts gX2_copyFrom_X2_copy rfl rfl rfl (by decide +kernel) ⟨Nat.le_of_ble_eq_true rfl, Nat.le_of_ble_eq_true rfl⟩) hK hP hD hS hA [19, 8] [0, 1, 2, 3, 4, 5, 6, 7, 9, 10, 11, 12, 13, 14, 15, 16, 17, 18, 20, 21] [0, 1, 2, 3, 4, 5, 6, 7, 21, 8, 9, 10, 11, 12, 13, 14, 15, 16, 17, 20, 18, 19] rfl rfl rfl (fun _u => hw K h a (hrow (hrow (hrow (hrow (hrow (hrow (hrow (hrow S 0 (S2 0)) 1 (S2 1)) 2 (S2 2)) 3 (S2 3)) 4 (S2 4)) 5 (S2 5)) 6 (S2 6)) 7 (S2 7)) ++ hw K h2 a2 (hrow (hrow (hrow (hrow (hrow (hrow (hrow (hrow S2 0 (S2 0)) 1 (S2 1)) 2 (S2 2)) 3 (S2 3)) 4 (S2 4)) 5 (S2 5)) 6 (S2 6)) 7 (S2 7))) (fun _ => rfl) rfl hl.1 rfl (Nat.le_of_ble_eq_true rfl) (Nat.le_of_ble_eq_true rfl) (Nat.le_of_ble_eq_true rfl) dX2_copyFrom_85 (fun _ H locs hq85 hP hD hS => ?_)
  have hP : va_P K.1 vwCl (hw K h a (hrow (hrow (hrow (hrow (hrow (hrow (hrow (hrow S 0 (S2 0)) 1 (S2 1)) 2 (S2 2)) 3 (S2 3)) 4 (S2 4)) 5 (S2 5)) 6 (S2 6)) 7 (S2 7)) ++ hw K h2 a2 (hrow (hrow (hrow (hrow (hrow (hrow (hrow (hrow S2 0 (S2 0)) 1 (S2 1)) 2 (S2 2)) 3 (S2 3)) 4 (S2 4)) 5 (S2 5)) 6 (S2 6)) 7 (S2 7))) H := hP
  have hD : va_D A (hw K h a (hrow (hrow (hrow (hrow (hrow (hrow (hrow (hrow S 0 (S2 0)) 1 (S2 1)) 2 (S2 2)) 3 (S2 3)) 4 (S2 4)) 5 (S2 5)) 6 (S2 6)) 7 (S2 7)) ++ hw K h2 a2 (hrow (hrow (hrow (hrow (hrow (hrow (hrow (hrow S2 0 (S2 0)) 1 (S2 1)) 2 (S2 2)) 3 (S2 3)) 4 (S2 4)) 5 (S2 5)) 6 (S2 6)) 7 (S2 7))) := hD
  refine lv_aload_n hx hb dX2_copyFrom_88 rfl (lv_at hl 1 rfl) ?_
  refine va_get (ci := 2) (v := .ref (a2 8)) (C := RX2) (T := TX2) (N := 17) hx hb hts hi2 hown hK hP 11 rfl rfl 8 (by decide) lk36 (fun _ h9 => h9) rfl dX2_copyFrom_89 ?_
  refine lv_aload_n hx hb dX2_copyFrom_92 rfl (lv_at hl 0 rfl) ?_
  refine va_get (ci := 2) (v := .ref (a 8)) (C := RX2) (T := TX2) (N := 17) hx hb hts hi2 hown hK hP 0 rfl rfl 8 (by decide) lk36 (fun _ h9 => h9) rfl dX2_copyFrom_93 ?_
  refine xw_Sv (As := [.ref (a2 8), .ref (a 8)]) (rest := []) (wc := [((a2 8), aI K 10 (S2 8))] ++ [((a 8), aI K 10 (S 8))]) (wr := (List.filterMap (fun i => (hw K h a (hrow (hrow (hrow (hrow (hrow (hrow (hrow (hrow S 0 (S2 0)) 1 (S2 1)) 2 (S2 2)) 3 (S2 3)) 4 (S2 4)) 5 (S2 5)) 6 (S2 6)) 7 (S2 7)) ++ hw K h2 a2 (hrow (hrow (hrow (hrow (hrow (hrow (hrow (hrow S2 0 (S2 0)) 1 (S2 1)) 2 (S2 2)) 3 (S2 3)) 4 (S2 4)) 5 (S2 5)) 6 (S2 6)) 7 (S2 7)) : va_W)[i]?) ([0, 1, 2, 3, 4, 5, 6, 7, 8, 10, 11, 12, 13, 14, 15, 16, 17, 18, 19, 21] : List Nat))) ⟨hx, hb, hml, hown, hts⟩ (c_X2_copy l K (a2 8) (S2 8) 10 (by decide) (a 8) (S 8) H.size) (va_cwS 2 hts gX2_copyFrom_X2_copy rfl rfl rfl (by decide +kernel) ⟨Nat.le_of_ble_eq_true rfl, Nat.le_of_ble_eq_true rfl⟩) hK hP hD hS hA [20, 9] [0, 1, 2, 3, 4, 5, 6, 7, 8, 10, 11, 12, 13, 14, 15, 16, 17, 18, 19, 21] [0, 1, 2, 3, 4, 5, 6, 7, 8, 21, 9, 10, 11, 12, 13, 14, 15, 16, 17, 18, 20, 19] rfl rfl rfl (fun _u => hw K h a (hrow (hrow (hrow (hrow (hrow (hrow (hrow (hrow (hrow S 0 (S2 0)) 1 (S2 1)) 2 (S2 2)) 3 (S2 3)) 4 (S2 4)) 5 (S2 5)) 6 (S2 6)) 7 (S2 7)) 8 (S2 8)) ++ hw K h2 a2 (hrow (hrow (hrow (hrow (hrow (hrow (hrow (hrow (hrow S2 0 (S2 0)) 1 (S2 1)) 2 (S2 2)) 3 (S2 3)) 4 (S2 4)) 5 (S2 5)) 6 (S2 6)) 7 (S2 7)) 8 (S2 8))) (fun _ => rfl) rfl hl.1 rfl (Nat.le_of_ble_eq_true rfl) (Nat.le_of_ble_eq_true rfl) (Nat.le_of_ble_eq_true rfl) dX2_copyFrom_96 (fun _ H locs hq96 hP hD hS => ?_)
  have hP : va_P K.1 vwCl (hw K h a (hrow (hrow (hrow (hrow (hrow (hrow (hrow (hrow (hrow S 0 (S2 0)) 1 (S2 1)) 2 (S2 2)) 3 (S2 3)) 4 (S2 4)) 5 (S2 5)) 6 (S2 6)) 7 (S2 7)) 8 (S2 8)) ++ hw K h2 a2 (hrow (hrow (hrow (hrow (hrow (hrow (hrow (hrow (hrow S2 0 (S2 0)) 1 (S2 1)) 2 (S2 2)) 3 (S2 3)) 4 (S2 4)) 5 (S2 5)) 6 (S2 6)) 7 (S2 7)) 8 (S2 8))) H := hP
  have hD : va_D A (hw K h a (hrow (hrow (hrow (hrow (hrow (hrow (hrow (hrow (hrow S 0 (S2 0)) 1 (S2 1)) 2 (S2 2)) 3 (S2 3)) 4 (S2 4)) 5 (S2 5)) 6 (S2 6)) 7 (S2 7)) 8 (S2 8)) ++ hw K h2 a2 (hrow (hrow (hrow (hrow (hrow (hrow (hrow (hrow (hrow S2 0 (S2 0)) 1 (S2 1)) 2 (S2 2)) 3 (S2 3)) 4 (S2 4)) 5 (S2 5)) 6 (S2 6)) 7 (S2 7)) 8 (S2 8))) := hD
  refine lv_aload_n hx hb dX2_copyFrom_99 rfl (lv_at hl 1 rfl) ?_
  refine va_get (ci := 2) (v := .ref (a2 9)) (C := RX2) (T := TX2) (N := 17) hx hb hts hi2 hown hK hP 11 rfl rfl 9 (by decide) lk39 (fun _ h9 => h9) rfl dX2_copyFrom_100 ?_
  refine lv_aload_n hx hb dX2_copyFrom_103 rfl (lv_at hl 0 rfl) ?_
  refine va_get (ci := 2) (v := .ref (a 9)) (C := RX2) (T := TX2) (N := 17) hx hb hts hi2 hown hK hP 0 rfl rfl 9 (by decide) lk39 (fun _ h9 => h9) rfl dX2_copyFrom_104 ?_
  refine xw_Sv (As := [.ref (a2 9), .ref (a 9)]) (rest := []) (wc := [((a2 9), aI K 5 (S2 9))] ++ [((a 9), aI K 5 (S 9))]) (wr := (List.filterMap (fun i => (hw K h a (hrow (hrow (hrow (hrow (hrow (hrow (hrow (hrow (hrow S 0 (S2 0)) 1 (S2 1)) 2 (S2 2)) 3 (S2 3)) 4 (S2 4)) 5 (S2 5)) 6 (S2 6)) 7 (S2 7)) 8 (S2 8)) ++ hw K h2 a2 (hrow (hrow (hrow (hrow (hrow (hrow (hrow (hrow (hrow S2 0 (S2 0)) 1 (S2 1)) 2 (S2 2)) 3 (S2 3)) 4 (S2 4)) 5 (S2 5)) 6 (S2 6)) 7 (S2 7)) 8 (S2 8)) : va_W)[i]?) ([0, 1, 2, 3, 4, 5, 6, 7, 8, 9, 11, 12, 13, 14, 15, 16, 17, 18, 19, 20] : List Nat))) ⟨hx, hb, hml, hown, hts⟩ (c_X2_copy l K (a2 9) (S2 9) 5 (by decide) (a 9) (S 9) H.size) (va_cwS 2 hts gX2_copyFrom_X2_copy rfl rfl rfl (by decide +kernel) ⟨Nat.le_of_ble_eq_true rfl, Nat.le_of_ble_eq_true rfl⟩) hK hP hD hS hA [21, 10] [0, 1, 2, 3, 4, 5, 6, 7, 8, 9, 11, 12, 13, 14, 15, 16, 17, 18, 19, 20] [0, 1, 2, 3, 4, 5, 6, 7, 8, 9, 21, 10, 11, 12, 13, 14, 15, 16, 17, 18, 19, 20] rfl rfl rfl (fun _u => hw K h a (hrow (hrow (hrow (hrow (hrow (hrow (hrow (hrow (hrow (hrow S 0 (S2 0)) 1 (S2 1)) 2 (S2 2)) 3 (S2 3)) 4 (S2 4)) 5 (S2 5)) 6 (S2 6)) 7 (S2 7)) 8 (S2 8)) 9 (S2 9)) ++ hw K h2 a2 (hrow (hrow (hrow (hrow (hrow (hrow (hrow (hrow (hrow (hrow S2 0 (S2 0)) 1 (S2 1)) 2 (S2 2)) 3 (S2 3)) 4 (S2 4)) 5 (S2 5)) 6 (S2 6)) 7 (S2 7)) 8 (S2 8)) 9 (S2 9))) (fun _ => rfl) rfl hl.1 rfl (Nat.le_of_ble_eq_true rfl) (Nat.le_of_ble_eq_true rfl) (Nat.le_of_ble_eq_true rfl) dX2_copyFrom_107 (fun _ H locs hq107 hP hD hS => ?_)
  have hP : va_P K.1 vwCl (hw K h a (hrow (hrow (hrow (hrow (hrow (hrow (hrow (hrow (hrow (hrow S 0 (S2 0)) 1 (S2 1)) 2 (S2 2)) 3 (S2 3)) 4 (S2 4)) 5 (S2 5)) 6 (S2 6)) 7 (S2 7)) 8 (S2 8)) 9 (S2 9)) ++ hw K h2 a2 (hrow (hrow (hrow (hrow (hrow (hrow (hrow (hrow (hrow (hrow S2 0 (S2 0)) 1 (S2 1)) 2 (S2 2)) 3 (S2 3)) 4 (S2 4)) 5 (S2 5)) 6 (S2 6)) 7 (S2 7)) 8 (S2 8)) 9 (S2 9))) H := hP
  have hD : va_D A (hw K h a (hrow (hrow (hrow (hrow (hrow (hrow (hrow (hrow (hrow (hrow S 0 (S2 0)) 1 (S2 1)) 2 (S2 2)) 3 (S2 3)) 4 (S2 4)) 5 (S2 5)) 6 (S2 6)) 7 (S2 7)) 8 (S2 8)) 9 (S2 9)) ++ hw K h2 a2 (hrow (hrow (hrow (hrow (hrow (hrow (hrow (hrow (hrow (hrow S2 0 (S2 0)) 1 (S2 1)) 2 (S2 2)) 3 (S2 3)) 4 (S2 4)) 5 (S2 5)) 6 (S2 6)) 7 (S2 7)) 8 (S2 8)) 9 (S2 9))) := hD
  refine lv_aload_n hx hb dX2_copyFrom_110 rfl (lv_at hl 0 rfl) ?_
  refine lv_aload_n hx hb dX2_copyFrom_111 rfl (lv_at hl 1 rfl) ?_
  refine va_get (ci := 2) (v := .int (S2 10 0)) (C := RX2) (T := TX2) (N := 17) hx hb hts hi2 hown hK hP 11 rfl rfl 10 (by decide) lk52 (fun _ h9 => h9) rfl dX2_copyFrom_112 ?_
  refine va_put (ci := 2) (v := .int (S2 10 0)) (ty := .int) (C := RX2) (T := TX2) (N := 17) hx hb hts hi2 tyX2 tyX2_ok nmX2 hown hK hP hD hS 0 rfl rfl 10 (by decide) lk52 (fun _ h9 => h9) rfl (by decide +kernel) rfl rfl (Nat.le_of_ble_eq_true rfl) dX2_copyFrom_115 (fun H locs hP hD hS => ?_)
  have hP : va_P K.1 vwCl (hw K h a (hput (hrow (hrow (hrow (hrow (hrow (hrow (hrow (hrow (hrow (hrow S 0 (S2 0)) 1 (S2 1)) 2 (S2 2)) 3 (S2 3)) 4 (S2 4)) 5 (S2 5)) 6 (S2 6)) 7 (S2 7)) 8 (S2 8)) 9 (S2 9)) 10 (S2 10 0)) ++ hw K h2 a2 (hrow (hrow (hrow (hrow (hrow (hrow (hrow (hrow (hrow (hrow S2 0 (S2 0)) 1 (S2 1)) 2 (S2 2)) 3 (S2 3)) 4 (S2 4)) 5 (S2 5)) 6 (S2 6)) 7 (S2 7)) 8 (S2 8)) 9 (S2 9))) H := hP
  have hD : va_D A (hw K h a (hput (hrow (hrow (hrow (hrow (hrow (hrow (hrow (hrow (hrow (hrow S 0 (S2 0)) 1 (S2 1)) 2 (S2 2)) 3 (S2 3)) 4 (S2 4)) 5 (S2 5)) 6 (S2 6)) 7 (S2 7)) 8 (S2 8)) 9 (S2 9)) 10 (S2 10 0)) ++ hw K h2 a2 (hrow (hrow (hrow (hrow (hrow (hrow (hrow (hrow (hrow (hrow S2 0 (S2 0)) 1 (S2 1)) 2 (S2 2)) 3 (S2 3)) 4 (S2 4)) 5 (S2 5)) 6 (S2 6)) 7 (S2 7)) 8 (S2 8)) 9 (S2 9))) := hD
  refine lv_aload_n hx hb dX2_copyFrom_118 rfl (lv_at hl 0 rfl) ?_
  refine lv_aload_n hx hb dX2_copyFrom_119 rfl (lv_at hl 1 rfl) ?_
  refine va_get (ci := 2) (v := .int (S2 11 0)) (C := RX2) (T := TX2) (N := 17) hx hb hts hi2 hown hK hP 11 rfl rfl 11 (by decide) lk56 (fun _ h9 => h9) rfl dX2_copyFrom_120 ?_
  refine va_put (ci := 2) (v := .int (S2 11 0)) (ty := .int) (C := RX2) (T := TX2) (N := 17) hx hb hts hi2 tyX2 tyX2_ok nmX2 hown hK hP hD hS 0 rfl rfl 11 (by decide) lk56 (fun _ h9 => h9) rfl (by decide +kernel) rfl rfl (Nat.le_of_ble_eq_true rfl) dX2_copyFrom_123 (fun H locs hP hD hS => ?_)
  have hP : va_P K.1 vwCl (hw K h a (hput (hput (hrow (hrow (hrow (hrow (hrow (hrow (hrow (hrow (hrow (hrow S 0 (S2 0)) 1 (S2 1)) 2 (S2 2)) 3 (S2 3)) 4 (S2 4)) 5 (S2 5)) 6 (S2 6)) 7 (S2 7)) 8 (S2 8)) 9 (S2 9)) 10 (S2 10 0)) 11 (S2 11 0)) ++ hw K h2 a2 (hrow (hrow (hrow (hrow (hrow (hrow (hrow (hrow (hrow (hrow S2 0 (S2 0)) 1 (S2 1)) 2 (S2 2)) 3 (S2 3)) 4 (S2 4)) 5 (S2 5)) 6 (S2 6)) 7 (S2 7)) 8 (S2 8)) 9 (S2 9))) H := hP
  have hD : va_D A (hw K h a (hput (hput (hrow (hrow (hrow (hrow (hrow (hrow (hrow (hrow (hrow (hrow S 0 (S2 0)) 1 (S2 1)) 2 (S2 2)) 3 (S2 3)) 4 (S2 4)) 5 (S2 5)) 6 (S2 6)) 7 (S2 7)) 8 (S2 8)) 9 (S2 9)) 10 (S2 10 0)) 11 (S2 11 0)) ++ hw K h2 a2 (hrow (hrow (hrow (hrow (hrow (hrow (hrow (hrow (hrow (hrow S2 0 (S2 0)) 1 (S2 1)) 2 (S2 2)) 3 (S2 3)) 4 (S2 4)) 5 (S2 5)) 6 (S2 6)) 7 (S2 7)) 8 (S2 8)) 9 (S2 9))) := hD
  refine lv_aload_n hx hb dX2_copyFrom_126 rfl (lv_at hl 0 rfl) ?_
  refine lv_aload_n hx hb dX2_copyFrom_127 rfl (lv_at hl 1 rfl) ?_
  refine va_get (ci := 2) (v := .int (S2 12 0)) (C := RX2) (T := TX2) (N := 17) hx hb hts hi2 hown hK hP 11 rfl rfl 12 (by decide) lk59 (fun _ h9 => h9) rfl dX2_copyFrom_128 ?_
  refine va_put (ci := 2) (v := .int (S2 12 0)) (ty := .int) (C := RX2) (T := TX2) (N := 17) hx hb hts hi2 tyX2 tyX2_ok nmX2 hown hK hP hD hS 0 rfl rfl 12 (by decide) lk59 (fun _ h9 => h9) rfl (by decide +kernel) rfl rfl (Nat.le_of_ble_eq_true rfl) dX2_copyFrom_131 (fun H locs hP hD hS => ?_)
  have hP : va_P K.1 vwCl (hw K h a (hput (hput (hput (hrow (hrow (hrow (hrow (hrow (hrow (hrow (hrow (hrow (hrow S 0 (S2 0)) 1 (S2 1)) 2 (S2 2)) 3 (S2 3)) 4 (S2 4)) 5 (S2 5)) 6 (S2 6)) 7 (S2 7)) 8 (S2 8)) 9 (S2 9)) 10 (S2 10 0)) 11 (S2 11 0)) 12 (S2 12 0)) ++ hw K h2 a2 (hrow (hrow (hrow (hrow (hrow (hrow (hrow (hrow (hrow (hrow S2 0 (S2 0)) 1 (S2 1)) 2 (S2 2)) 3 (S2 3)) 4 (S2 4)) 5 (S2 5)) 6 (S2 6)) 7 (S2 7)) 8 (S2 8)) 9 (S2 9))) H := hP
  have hD : va_D A (hw K h a (hput (hput (hput (hrow (hrow (hrow (hrow (hrow (hrow (hrow (hrow (hrow (hrow S 0 (S2 0)) 1 (S2 1)) 2 (S2 2)) 3 (S2 3)) 4 (S2 4)) 5 (S2 5)) 6 (S2 6)) 7 (S2 7)) 8 (S2 8)) 9 (S2 9)) 10 (S2 10 0)) 11 (S2 11 0)) 12 (S2 12 0)) ++ hw K h2 a2 (hrow (hrow (hrow (hrow (hrow (hrow (hrow (hrow (hrow (hrow S2 0 (S2 0)) 1 (S2 1)) 2 (S2 2)) 3 (S2 3)) 4 (S2 4)) 5 (S2 5)) 6 (S2 6)) 7 (S2 7)) 8 (S2 8)) 9 (S2 9))) := hD
  refine lv_aload_n hx hb dX2_copyFrom_134 rfl (lv_at hl 0 rfl) ?_
  refine lv_aload_n hx hb dX2_copyFrom_135 rfl (lv_at hl 1 rfl) ?_
  refine va_get (ci := 2) (v := .int (S2 13 0)) (C := RX2) (T := TX2) (N := 17) hx hb hts hi2 hown hK hP 11 rfl rfl 13 (by decide) lk62 (fun _ h9 => h9) rfl dX2_copyFrom_136 ?_
  refine va_put (ci := 2) (v := .int (S2 13 0)) (ty := .int) (C := RX2) (T := TX2) (N := 17) hx hb hts hi2 tyX2 tyX2_ok nmX2 hown hK hP hD hS 0 rfl rfl 13 (by decide) lk62 (fun _ h9 => h9) rfl (by decide +kernel) rfl rfl (Nat.le_of_ble_eq_true rfl) dX2_copyFrom_139 (fun H locs hP hD hS => ?_)
  have hP : va_P K.1 vwCl (hw K h a (hput (hput (hput (hput (hrow (hrow (hrow (hrow (hrow (hrow (hrow (hrow (hrow (hrow S 0 (S2 0)) 1 (S2 1)) 2 (S2 2)) 3 (S2 3)) 4 (S2 4)) 5 (S2 5)) 6 (S2 6)) 7 (S2 7)) 8 (S2 8)) 9 (S2 9)) 10 (S2 10 0)) 11 (S2 11 0)) 12 (S2 12 0)) 13 (S2 13 0)) ++ hw K h2 a2 (hrow (hrow (hrow (hrow (hrow (hrow (hrow (hrow (hrow (hrow S2 0 (S2 0)) 1 (S2 1)) 2 (S2 2)) 3 (S2 3)) 4 (S2 4)) 5 (S2 5)) 6 (S2 6)) 7 (S2 7)) 8 (S2 8)) 9 (S2 9))) H := hP
  have hD : va_D A (hw K h a (hput (hput (hput (hput (hrow (hrow (hrow (hrow (hrow (hrow (hrow (hrow (hrow (hrow S 0 (S2 0)) 1 (S2 1)) 2 (S2 2)) 3 (S2 3)) 4 (S2 4)) 5 (S2 5)) 6 (S2 6)) 7 (S2 7)) 8 (S2 8)) 9 (S2 9)) 10 (S2 10 0)) 11 (S2 11 0)) 12 (S2 12 0)) 13 (S2 13 0)) ++ hw K h2 a2 (hrow (hrow (hrow (hrow (hrow (hrow (hrow (hrow (hrow (hrow S2 0 (S2 0)) 1 (S2 1)) 2 (S2 2)) 3 (S2 3)) 4 (S2 4)) 5 (S2 5)) 6 (S2 6)) 7 (S2 7)) 8 (S2 8)) 9 (S2 9))) := hD
  refine lv_aload_n hx hb dX2_copyFrom_142 rfl (lv_at hl 0 rfl) ?_
  refine lv_aload_n hx hb dX2_copyFrom_143 rfl (lv_at hl 1 rfl) ?_
  refine va_get (ci := 2) (v := .int (S2 14 0)) (C := RX2) (T := TX2) (N := 17) hx hb hts hi2 hown hK hP 11 rfl rfl 14 (by decide) lk65 (fun _ h9 => h9) rfl dX2_copyFrom_144 ?_
  refine va_put (ci := 2) (v := .int (S2 14 0)) (ty := .int) (C := RX2) (T := TX2) (N := 17) hx hb hts hi2 tyX2 tyX2_ok nmX2 hown hK hP hD hS 0 rfl rfl 14 (by decide) lk65 (fun _ h9 => h9) rfl (by decide +kernel) rfl rfl (Nat.le_of_ble_eq_true rfl) dX2_copyFrom_147 (fun H locs hP hD hS => ?_)
  have hP : va_P K.1 vwCl (hw K h a (hput (hput (hput (hput (hput (hrow (hrow (hrow (hrow (hrow (hrow (hrow (hrow (hrow (hrow S 0 (S2 0)) 1 (S2 1)) 2 (S2 2)) 3 (S2 3)) 4 (S2 4)) 5 (S2 5)) 6 (S2 6)) 7 (S2 7)) 8 (S2 8)) 9 (S2 9)) 10 (S2 10 0)) 11 (S2 11 0)) 12 (S2 12 0)) 13 (S2 13 0)) 14 (S2 14 0)) ++ hw K h2 a2 (hrow (hrow (hrow (hrow (hrow (hrow (hrow (hrow (hrow (hrow S2 0 (S2 0)) 1 (S2 1)) 2 (S2 2)) 3 (S2 3)) 4 (S2 4)) 5 (S2 5)) 6 (S2 6)) 7 (S2 7)) 8 (S2 8)) 9 (S2 9))) H := hP
  have hD : va_D A (hw K h a (hput (hput (hput (hput (hput (hrow (hrow (hrow (hrow (hrow (hrow (hrow (hrow (hrow (hrow S 0 (S2 0)) 1 (S2 1)) 2 (S2 2)) 3 (S2 3)) 4 (S2 4)) 5 (S2 5)) 6 (S2 6)) 7 (S2 7)) 8 (S2 8)) 9 (S2 9)) 10 (S2 10 0)) 11 (S2 11 0)) 12 (S2 12 0)) 13 (S2 13 0)) 14 (S2 14 0)) ++ hw K h2 a2 (hrow (hrow (hrow (hrow (hrow (hrow (hrow (hrow (hrow (hrow S2 0 (S2 0)) 1 (S2 1)) 2 (S2 2)) 3 (S2 3)) 4 (S2 4)) 5 (S2 5)) 6 (S2 6)) 7 (S2 7)) 8 (S2 8)) 9 (S2 9))) := hD
  refine lv_aload_n hx hb dX2_copyFrom_150 rfl (lv_at hl 0 rfl) ?_
  refine lv_aload_n hx hb dX2_copyFrom_151 rfl (lv_at hl 1 rfl) ?_
  refine va_get (ci := 2) (v := .int (S2 15 0)) (C := RX2) (T := TX2) (N := 17) hx hb hts hi2 hown hK hP 11 rfl rfl 15 (by decide) lk68 (fun _ h9 => h9) rfl dX2_copyFrom_152 ?_
  refine va_put (ci := 2) (v := .int (S2 15 0)) (ty := .int) (C := RX2) (T := TX2) (N := 17) hx hb hts hi2 tyX2 tyX2_ok nmX2 hown hK hP hD hS 0 rfl rfl 15 (by decide) lk68 (fun _ h9 => h9) rfl (by decide +kernel) rfl rfl (Nat.le_of_ble_eq_true rfl) dX2_copyFrom_155 (fun H locs hP hD hS => ?_)
  have hP : va_P K.1 vwCl (hw K h a (hput (hput (hput (hput (hput (hput (hrow (hrow (hrow (hrow (hrow (hrow (hrow (hrow (hrow (hrow S 0 (S2 0)) 1 (S2 1)) 2 (S2 2)) 3 (S2 3)) 4 (S2 4)) 5 (S2 5)) 6 (S2 6)) 7 (S2 7)) 8 (S2 8)) 9 (S2 9)) 10 (S2 10 0)) 11 (S2 11 0)) 12 (S2 12 0)) 13 (S2 13 0)) 14 (S2 14 0)) 15 (S2 15 0)) ++ hw K h2 a2 (hrow (hrow (hrow (hrow (hrow (hrow (hrow (hrow (hrow (hrow S2 0 (S2 0)) 1 (S2 1)) 2 (S2 2)) 3 (S2 3)) 4 (S2 4)) 5 (S2 5)) 6 (S2 6)) 7 (S2 7)) 8 (S2 8)) 9 (S2 9))) H := hP
  have hD : va_D A (hw K h a (hput (hput (hput (hput (hput (hput (hrow (hrow (hrow (hrow (hrow (hrow (hrow (hrow (hrow (hrow S 0 (S2 0)) 1 (S2 1)) 2 (S2 2)) 3 (S2 3)) 4 (S2 4)) 5 (S2 5)) 6 (S2 6)) 7 (S2 7)) 8 (S2 8)) 9 (S2 9)) 10 (S2 10 0)) 11 (S2 11 0)) 12 (S2 12 0)) 13 (S2 13 0)) 14 (S2 14 0)) 15 (S2 15 0)) ++ hw K h2 a2 (hrow (hrow (hrow (hrow (hrow (hrow (hrow (hrow (hrow (hrow S2 0 (S2 0)) 1 (S2 1)) 2 (S2 2)) 3 (S2 3)) 4 (S2 4)) 5 (S2 5)) 6 (S2 6)) 7 (S2 7)) 8 (S2 8)) 9 (S2 9))) := hD
  refine lv_aload_n hx hb dX2_copyFrom_158 rfl (lv_at hl 0 rfl) ?_
  refine lv_aload_n hx hb dX2_copyFrom_159 rfl (lv_at hl 1 rfl) ?_
  refine va_get (ci := 2) (v := .int (S2 16 0)) (C := RX2) (T := TX2) (N := 17) hx hb hts hi2 hown hK hP 11 rfl rfl 16 (by decide) lk71 (fun _ h9 => h9) rfl dX2_copyFrom_160 ?_
  refine va_put (ci := 2) (v := .int (S2 16 0)) (ty := .boolean) (C := RX2) (T := TX2) (N := 17) hx hb hts hi2 tyX2 tyX2_ok nmX2 hown hK hP hD hS 0 rfl rfl 16 (by decide) lk71 (fun _ h9 => h9) rfl (by decide +kernel) (by rcases hz with h | h <;> rw [h] <;> rfl) (by rcases hz with h | h <;> rw [h] <;> rfl) (Nat.le_of_ble_eq_true rfl) dX2_copyFrom_163 (fun H locs hP hD hS => ?_)
  have hP : va_P K.1 vwCl (hw K h a (hput (hput (hput (hput (hput (hput (hput (hrow (hrow (hrow (hrow (hrow (hrow (hrow (hrow (hrow (hrow S 0 (S2 0)) 1 (S2 1)) 2 (S2 2)) 3 (S2 3)) 4 (S2 4)) 5 (S2 5)) 6 (S2 6)) 7 (S2 7)) 8 (S2 8)) 9 (S2 9)) 10 (S2 10 0)) 11 (S2 11 0)) 12 (S2 12 0)) 13 (S2 13 0)) 14 (S2 14 0)) 15 (S2 15 0)) 16 (S2 16 0)) ++ hw K h2 a2 (hrow (hrow (hrow (hrow (hrow (hrow (hrow (hrow (hrow (hrow S2 0 (S2 0)) 1 (S2 1)) 2 (S2 2)) 3 (S2 3)) 4 (S2 4)) 5 (S2 5)) 6 (S2 6)) 7 (S2 7)) 8 (S2 8)) 9 (S2 9))) H := hP
  have hD : va_D A (hw K h a (hput (hput (hput (hput (hput (hput (hput (hrow (hrow (hrow (hrow (hrow (hrow (hrow (hrow (hrow (hrow S 0 (S2 0)) 1 (S2 1)) 2 (S2 2)) 3 (S2 3)) 4 (S2 4)) 5 (S2 5)) 6 (S2 6)) 7 (S2 7)) 8 (S2 8)) 9 (S2 9)) 10 (S2 10 0)) 11 (S2 11 0)) 12 (S2 12 0)) 13 (S2 13 0)) 14 (S2 14 0)) 15 (S2 15 0)) 16 (S2 16 0)) ++ hw K h2 a2 (hrow (hrow (hrow (hrow (hrow (hrow (hrow (hrow (hrow (hrow S2 0 (S2 0)) 1 (S2 1)) 2 (S2 2)) 3 (S2 3)) 4 (S2 4)) 5 (S2 5)) 6 (S2 6)) 7 (S2 7)) 8 (S2 8)) 9 (S2 9))) := hD
  exact hend _ _ _ _ _ _ () hP hD hS (Nat.le_of_ble_eq_true rfl) (Nat.le_of_ble_eq_true rfl) trivial dX2_copyFrom_166

abbrev rm_X2_putRole : Room := { frames := 1, cells := 0, slots := 0, locals := 20 }
set_option maxHeartbeats 4000000 in
set_option maxRecDepth 100000 in
theorem c_X2_putRole (l : Launch) (K : KX) (h : Nat) (a : Nat → Nat) (S : HV) (w : Int32) (R : Nat) (hR0 : S 10 0 = nI R) (hR0b : R ≤ 6) (hz : S 16 0 = 0 ∨ S 16 0 = 1) (sz : Nat) : Met l yX2_putRole wsX2_putRole rm_X2_putRole (va_Pc [.ref h, .int w] (xPre K (hw K h a S) sz)) (va_Qi (fun (r9 : Int32) (_u : Unit) => r9 = bI (S 10 0 < 6 ∧ S 16 0 = 0)) (fun _u t => xPost K (va_A (hw K h a S) sz) (hw K h a (if S 10 0 < 6 ∧ S 16 0 = 0 then hPutRole S R w else S)) t) (va_A (hw K h a S) sz)) 0 0 (va_A (hw K h a S) sz) := by
  refine xw_startz (cc := cX2_putRole) (maxL := 2) (ret := .boolean) (by decide) rfl (Nat.le_of_ble_eq_true rfl) ?_
  intro p9 e9 s9 m9 below9 meth9 c9 H locs ls A av9 Q9 hx hb hlocks hml hname hts hown hK hP hD hS hA hsz hend hl
  have hown : s9.vm.findClass RX2 = some m9.cls := hown
  have hl : lv_has ls 2 [(0, .ref h), (1, .int w)] := hl
  have hi2 : ∀ w ∈ u_ws RX2 TX2 17, w ∈ wsX2_putRole := by decide +kernel
  have lk9 := hts (.fieldLink RX2 9 "StandIns$House" "weights" "[I") (by decide +kernel)
  have lk52 := hts (.fieldLink RX2 52 "StandIns$House" "roles" "I") (by decide +kernel)
  refine lv_aload_n hx hb dX2_putRole_0 rfl (lv_at hl 0 rfl) ?_
  have hPc : va_P K.1 vwCl (hw K h a S) H := hP
  refine xr_V (As := []) (rest := []) ⟨hx, hb, hml, hown, hts⟩ (c_X2_takesRole l K h a S (by first | assumption | omega)) (cwV 0 hts gX2_putRole_X2_takesRole rfl rfl rfl (by decide +kernel) ⟨Nat.le_of_ble_eq_true rfl, Nat.le_of_ble_eq_true rfl⟩) hK hPc 0 2 rfl rfl rfl rfl hl.1 rfl (Nat.le_of_ble_eq_true rfl) (Nat.le_of_ble_eq_true rfl) (Nat.le_of_ble_eq_true rfl) dX2_putRole_1 ?_
  refine xb_if_ne (tgt := 9) hx hb dX2_putRole_4 (by decide) (fun c_4 => ?_) (fun c_4 => ?_)
  · skip
    have hR6 : R < 6 := (nn_lt hR0 (rfl : (6 : Int32) = nI 6) (by omega) (by decide)).mp c_4.1
    refine lv_aload_n hx hb dX2_putRole_9 rfl (lv_at hl 0 rfl) ?_
    refine va_get (ci := 2) (v := .ref (a 0)) (C := RX2) (T := TX2) (N := 17) hx hb hts hi2 hown hK hP 0 rfl rfl 0 (by decide) lk9 (fun _ h9 => h9) rfl dX2_putRole_10 ?_
    refine lv_aload_n hx hb dX2_putRole_13 rfl (lv_at hl 0 rfl) ?_
    refine va_get (ci := 2) (v := .int (S 10 0)) (C := RX2) (T := TX2) (N := 17) hx hb hts hi2 hown hK hP 0 rfl rfl 10 (by decide) lk52 (fun _ h9 => h9) rfl dX2_putRole_14 ?_
    refine lv_iload_n hx hb dX2_putRole_17 rfl (lv_at hl 1 rfl) ?_
    refine xi_st hx hb hK hP hD hS 1 (f := S 0) rfl R hR0 (by omega) (by decide) (hw K h a (hset S 0 R w)) rfl dX2_putRole_18 (fun H locs hP hD hS => ?_)
    refine lv_aload_n hx hb dX2_putRole_19 rfl (lv_at hl 0 rfl) ?_
    refine lv_dup hx hb dX2_putRole_20 rfl ?_
    refine va_get (ci := 2) (v := .int (S 10 0)) (C := RX2) (T := TX2) (N := 17) hx hb hts hi2 hown hK hP 0 rfl rfl 10 (by decide) lk52 (fun _ h9 => h9) rfl dX2_putRole_21 ?_
    refine lv_iconst (v := (1 : Int32)) hx hb dX2_putRole_24 (by decide) ?_
    refine lv_iadd hx hb dX2_putRole_25 ?_
    refine va_put (ci := 2) (v := .int ((S 10 0) + (1 : Int32))) (ty := .int) (C := RX2) (T := TX2) (N := 17) hx hb hts hi2 tyX2 tyX2_ok nmX2 hown hK hP hD hS 0 rfl rfl 10 (by decide) lk52 (fun _ h9 => h9) rfl (by decide +kernel) rfl rfl (Nat.le_of_ble_eq_true rfl) dX2_putRole_26 (fun H locs hP hD hS => ?_)
    have hP : va_P K.1 vwCl (hw K h a (hput (hset S 0 R w) 10 ((S 10 0) + (1 : Int32)))) H := hP
    have hD : va_D A (hw K h a (hput (hset S 0 R w) 10 ((S 10 0) + (1 : Int32)))) := hD
    refine lv_iconst (v := (1 : Int32)) hx hb dX2_putRole_29 (by decide) ?_
    have eS0 : (hput (hset S 0 R w) 10 ((S 10 0) + (1 : Int32))) = if S 10 0 < 6 ∧ S 16 0 = 0 then hPutRole S R w else S := by first | exact (if_neg c_4).symm | exact (if_pos c_4).symm
    rw [eS0] at hP hD
    exact hend _ _ _ _ _ _ _ (by decide) () hP hD hS (Nat.le_of_ble_eq_true rfl) (Nat.le_of_ble_eq_true rfl) (by first | exact (bI_f c_4).symm | exact (bI_t c_4).symm) dX2_putRole_30
  · skip
    refine lv_iconst (v := (0 : Int32)) hx hb dX2_putRole_7 (by decide) ?_
    have eS0 : (S) = if S 10 0 < 6 ∧ S 16 0 = 0 then hPutRole S R w else S := by first | exact (if_neg c_4).symm | exact (if_pos c_4).symm
    rw [eS0] at hP hD
    exact hend _ _ _ _ _ _ _ (by decide) () hP hD hS (Nat.le_of_ble_eq_true rfl) (Nat.le_of_ble_eq_true rfl) (by first | exact (bI_f c_4).symm | exact (bI_t c_4).symm) dX2_putRole_8

abbrev rm_X2_putPlayer : Room := { frames := 1, cells := 0, slots := 0, locals := 20 }
set_option maxHeartbeats 4000000 in
set_option maxRecDepth 100000 in
theorem c_X2_putPlayer (l : Launch) (K : KX) (h : Nat) (a : Nat → Nat) (S : HV) (sz : Nat) : Met l yX2_putPlayer wsX2_putPlayer rm_X2_putPlayer (va_Pc [.ref h] (xPre K (hw K h a S) sz)) (va_Qi (fun (r9 : Int32) (_u : Unit) => r9 = bI (S 11 0 < 10)) (fun _u t => xPost K (va_A (hw K h a S) sz) (hw K h a (if S 11 0 < 10 then hPutPlayer S else S)) t) (va_A (hw K h a S) sz)) 0 0 (va_A (hw K h a S) sz) := by
  refine xw_startz (cc := cX2_putPlayer) (maxL := 1) (ret := .boolean) (by decide) rfl (Nat.le_of_ble_eq_true rfl) ?_
  intro p9 e9 s9 m9 below9 meth9 c9 H locs ls A av9 Q9 hx hb hlocks hml hname hts hown hK hP hD hS hA hsz hend hl
  have hown : s9.vm.findClass RX2 = some m9.cls := hown
  have hl : lv_has ls 1 [(0, .ref h)] := hl
  have hi2 : ∀ w ∈ u_ws RX2 TX2 17, w ∈ wsX2_putPlayer := by decide +kernel
  have lk56 := hts (.fieldLink RX2 56 "StandIns$House" "players" "I") (by decide +kernel)
  refine lv_aload_n hx hb dX2_putPlayer_0 rfl (lv_at hl 0 rfl) ?_
  have hPc : va_P K.1 vwCl (hw K h a S) H := hP
  refine xr_V (As := []) (rest := []) ⟨hx, hb, hml, hown, hts⟩ (c_X2_takesPlayer l K h a S) (cwV 0 hts gX2_putPlayer_X2_takesPlayer rfl rfl rfl (by decide +kernel) ⟨Nat.le_of_ble_eq_true rfl, Nat.le_of_ble_eq_true rfl⟩) hK hPc 0 2 rfl rfl rfl rfl hl.1 rfl (Nat.le_of_ble_eq_true rfl) (Nat.le_of_ble_eq_true rfl) (Nat.le_of_ble_eq_true rfl) dX2_putPlayer_1 ?_
  refine xb_if_ne (tgt := 9) hx hb dX2_putPlayer_4 (by decide) (fun c_4 => ?_) (fun c_4 => ?_)
  · skip
    refine lv_aload_n hx hb dX2_putPlayer_9 rfl (lv_at hl 0 rfl) ?_
    refine lv_dup hx hb dX2_putPlayer_10 rfl ?_
    refine va_get (ci := 2) (v := .int (S 11 0)) (C := RX2) (T := TX2) (N := 17) hx hb hts hi2 hown hK hP 0 rfl rfl 11 (by decide) lk56 (fun _ h9 => h9) rfl dX2_putPlayer_11 ?_
    refine lv_iconst (v := (1 : Int32)) hx hb dX2_putPlayer_14 (by decide) ?_
    refine lv_iadd hx hb dX2_putPlayer_15 ?_
    refine va_put (ci := 2) (v := .int ((S 11 0) + (1 : Int32))) (ty := .int) (C := RX2) (T := TX2) (N := 17) hx hb hts hi2 tyX2 tyX2_ok nmX2 hown hK hP hD hS 0 rfl rfl 11 (by decide) lk56 (fun _ h9 => h9) rfl (by decide +kernel) rfl rfl (Nat.le_of_ble_eq_true rfl) dX2_putPlayer_16 (fun H locs hP hD hS => ?_)
    have hP : va_P K.1 vwCl (hw K h a (hput S 11 ((S 11 0) + (1 : Int32)))) H := hP
    have hD : va_D A (hw K h a (hput S 11 ((S 11 0) + (1 : Int32)))) := hD
    refine lv_iconst (v := (1 : Int32)) hx hb dX2_putPlayer_19 (by decide) ?_
    have eS0 : (hput S 11 ((S 11 0) + (1 : Int32))) = if S 11 0 < 10 then hPutPlayer S else S := by first | exact (if_neg c_4).symm | exact (if_pos c_4).symm
    rw [eS0] at hP hD
    exact hend _ _ _ _ _ _ _ (by decide) () hP hD hS (Nat.le_of_ble_eq_true rfl) (Nat.le_of_ble_eq_true rfl) (by first | exact (bI_f c_4).symm | exact (bI_t c_4).symm) dX2_putPlayer_20
  · skip
    refine lv_iconst (v := (0 : Int32)) hx hb dX2_putPlayer_7 (by decide) ?_
    have eS0 : (S) = if S 11 0 < 10 then hPutPlayer S else S := by first | exact (if_neg c_4).symm | exact (if_pos c_4).symm
    rw [eS0] at hP hD
    exact hend _ _ _ _ _ _ _ (by decide) () hP hD hS (Nat.le_of_ble_eq_true rfl) (Nat.le_of_ble_eq_true rfl) (by first | exact (bI_f c_4).symm | exact (bI_t c_4).symm) dX2_putPlayer_8

abbrev rm_X2_putDegree : Room := { frames := 1, cells := 0, slots := 0, locals := 21 }
set_option maxHeartbeats 4000000 in
set_option maxRecDepth 100000 in
theorem c_X2_putDegree (l : Launch) (K : KX) (h : Nat) (a : Nat → Nat) (S : HV) (p : Nat) (r : Nat) (d : Int32) (hp : p < 2 ^ 31) (hr : r < 2 ^ 31) (R : Nat) (hR0 : S 10 0 = nI R) (hR0b : R ≤ 6) (P : Nat) (hP0 : S 11 0 = nI P) (hP0b : P ≤ 10) (sz : Nat) : Met l yX2_putDegree wsX2_putDegree rm_X2_putDegree (va_Pc [.ref h, .int (nI p), .int (nI r), .int d] (xPre K (hw K h a S) sz)) (va_Qi (fun (r9 : Int32) (_u : Unit) => r9 = bI (p < P ∧ r < R)) (fun _u t => xPost K (va_A (hw K h a S) sz) (hw K h a (if p < P ∧ r < R then hset S 3 (r * 10 + p) d else S)) t) (va_A (hw K h a S) sz)) 0 0 (va_A (hw K h a S) sz) := by
  refine xw_startz (cc := cX2_putDegree) (maxL := 4) (ret := .boolean) (by decide) rfl (Nat.le_of_ble_eq_true rfl) ?_
  intro p9 e9 s9 m9 below9 meth9 c9 H locs ls A av9 Q9 hx hb hlocks hml hname hts hown hK hP hD hS hA hsz hend hl
  have hown : s9.vm.findClass RX2 = some m9.cls := hown
  have hl : lv_has ls 4 [(0, .ref h), (1, .int (nI p)), (2, .int (nI r)), (3, .int d)] := hl
  have hi2 : ∀ w ∈ u_ws RX2 TX2 17, w ∈ wsX2_putDegree := by decide +kernel
  have lk21 := hts (.fieldLink RX2 21 "StandIns$House" "degrees" "[I") (by decide +kernel)
  refine lv_aload_n hx hb dX2_putDegree_0 rfl (lv_at hl 0 rfl) ?_
  refine lv_iload_n hx hb dX2_putDegree_1 rfl (lv_at hl 1 rfl) ?_
  have hPc : va_P K.1 vwCl (hw K h a S) H := hP
  refine xr_V (As := [.int (nI p)]) (rest := []) ⟨hx, hb, hml, hown, hts⟩ (c_X2_hasPlayer_n l K h a S p (by first | assumption | omega) P hP0 (by omega)) (cwV 1 hts gX2_putDegree_X2_hasPlayer rfl rfl rfl (by decide +kernel) ⟨Nat.le_of_ble_eq_true rfl, Nat.le_of_ble_eq_true rfl⟩) hK hPc 0 2 rfl rfl rfl rfl hl.1 rfl (Nat.le_of_ble_eq_true rfl) (Nat.le_of_ble_eq_true rfl) (Nat.le_of_ble_eq_true rfl) dX2_putDegree_2 ?_
  refine xb_if_eq (tgt := 16) hx hb dX2_putDegree_5 (by decide) (fun c_5 => ?_) (fun c_5 => ?_)
  · skip
    refine lv_iconst (v := (0 : Int32)) hx hb dX2_putDegree_16 (by decide) ?_
    have eS0 : (S) = if p < P ∧ r < R then hset S 3 (r * 10 + p) d else S := by first | exact (if_pos (by omega)).symm | exact (if_neg (by omega)).symm
    rw [eS0] at hP hD
    exact hend _ _ _ _ _ _ _ (by decide) () hP hD hS (Nat.le_of_ble_eq_true rfl) (Nat.le_of_ble_eq_true rfl) (by first | exact (bI_t (by omega)).symm | exact (bI_f (by omega)).symm) dX2_putDegree_17
  · skip
    refine lv_aload_n hx hb dX2_putDegree_8 rfl (lv_at hl 0 rfl) ?_
    refine lv_iload_n hx hb dX2_putDegree_9 rfl (lv_at hl 2 rfl) ?_
    have hPc : va_P K.1 vwCl (hw K h a S) H := hP
    refine xr_V (As := [.int (nI r)]) (rest := []) ⟨hx, hb, hml, hown, hts⟩ (c_X2_hasRole_n l K h a S r (by first | assumption | omega) R hR0 (by omega)) (cwV 1 hts gX2_putDegree_X2_hasRole rfl rfl rfl (by decide +kernel) ⟨Nat.le_of_ble_eq_true rfl, Nat.le_of_ble_eq_true rfl⟩) hK hPc 0 2 rfl rfl rfl rfl hl.1 rfl (Nat.le_of_ble_eq_true rfl) (Nat.le_of_ble_eq_true rfl) (Nat.le_of_ble_eq_true rfl) dX2_putDegree_10 ?_
    refine xb_if_ne (tgt := 18) hx hb dX2_putDegree_13 (by decide) (fun c_13 => ?_) (fun c_13 => ?_)
    · skip
      refine lv_aload_n hx hb dX2_putDegree_18 rfl (lv_at hl 0 rfl) ?_
      refine va_get (ci := 2) (v := .ref (a 3)) (C := RX2) (T := TX2) (N := 17) hx hb hts hi2 hown hK hP 0 rfl rfl 3 (by decide) lk21 (fun _ h9 => h9) rfl dX2_putDegree_19 ?_
      refine lv_iload_n hx hb dX2_putDegree_22 rfl (lv_at hl 1 rfl) ?_
      refine lv_iload_n hx hb dX2_putDegree_23 rfl (lv_at hl 2 rfl) ?_
      have hPc := P_sub (ws' := []) hP [] rfl
      refine xr_S (As := [.int (nI p), .int (nI r)]) (rest := [.ref (a 3)]) ⟨hx, hb, hml, hown, hts⟩ (c_X2_cell l K p r) (va_cwS 2 hts gX2_putDegree_X2_cell rfl rfl rfl (by decide +kernel) ⟨Nat.le_of_ble_eq_true rfl, Nat.le_of_ble_eq_true rfl⟩) hK hPc rfl hl.1 rfl (Nat.le_of_ble_eq_true rfl) (Nat.le_of_ble_eq_true rfl) (Nat.le_of_ble_eq_true rfl) dX2_putDegree_24 ?_
      refine lv_iload_n hx hb dX2_putDegree_27 rfl (lv_at hl 3 rfl) ?_
      refine xi_st hx hb hK hP hD hS 4 (f := S 3) rfl (r * 10 + p) rfl (by omega) (by decide) (hw K h a (hset S 3 (r * 10 + p) d)) rfl dX2_putDegree_28 (fun H locs hP hD hS => ?_)
      refine lv_iconst (v := (1 : Int32)) hx hb dX2_putDegree_29 (by decide) ?_
      have eS0 : (hset S 3 (r * 10 + p) d) = if p < P ∧ r < R then hset S 3 (r * 10 + p) d else S := by first | exact (if_pos (by omega)).symm | exact (if_neg (by omega)).symm
      rw [eS0] at hP hD
      exact hend _ _ _ _ _ _ _ (by decide) () hP hD hS (Nat.le_of_ble_eq_true rfl) (Nat.le_of_ble_eq_true rfl) (by first | exact (bI_t (by omega)).symm | exact (bI_f (by omega)).symm) dX2_putDegree_30
    · skip
      refine lv_iconst (v := (0 : Int32)) hx hb dX2_putDegree_16 (by decide) ?_
      have eS0 : (S) = if p < P ∧ r < R then hset S 3 (r * 10 + p) d else S := by first | exact (if_pos (by omega)).symm | exact (if_neg (by omega)).symm
      rw [eS0] at hP hD
      exact hend _ _ _ _ _ _ _ (by decide) () hP hD hS (Nat.le_of_ble_eq_true rfl) (Nat.le_of_ble_eq_true rfl) (by first | exact (bI_t (by omega)).symm | exact (bI_f (by omega)).symm) dX2_putDegree_17

abbrev rm_X2_putFirst : Room := { frames := 1, cells := 0, slots := 0, locals := 21 }
set_option maxHeartbeats 4000000 in
set_option maxRecDepth 100000 in
theorem c_X2_putFirst (l : Launch) (K : KX) (h : Nat) (a : Nat → Nat) (S : HV) (r : Nat) (p : Nat) (hp : p < 2 ^ 31) (hr : r < 2 ^ 31) (R : Nat) (hR0 : S 10 0 = nI R) (hR0b : R ≤ 6) (P : Nat) (hP0 : S 11 0 = nI P) (hP0b : P ≤ 10) (sz : Nat) : Met l yX2_putFirst wsX2_putFirst rm_X2_putFirst (va_Pc [.ref h, .int (nI r), .int (nI p)] (xPre K (hw K h a S) sz)) (va_Qi (fun (r9 : Int32) (_u : Unit) => r9 = bI (p < P ∧ r < R)) (fun _u t => xPost K (va_A (hw K h a S) sz) (hw K h a (if p < P ∧ r < R then hset S 1 r (nI p) else S)) t) (va_A (hw K h a S) sz)) 0 0 (va_A (hw K h a S) sz) := by
  refine xw_startz (cc := cX2_putFirst) (maxL := 3) (ret := .boolean) (by decide) rfl (Nat.le_of_ble_eq_true rfl) ?_
  intro p9 e9 s9 m9 below9 meth9 c9 H locs ls A av9 Q9 hx hb hlocks hml hname hts hown hK hP hD hS hA hsz hend hl
  have hown : s9.vm.findClass RX2 = some m9.cls := hown
  have hl : lv_has ls 3 [(0, .ref h), (1, .int (nI r)), (2, .int (nI p))] := hl
  have hi2 : ∀ w ∈ u_ws RX2 TX2 17, w ∈ wsX2_putFirst := by decide +kernel
  have lk15 := hts (.fieldLink RX2 15 "StandIns$House" "firstPlayers" "[I") (by decide +kernel)
  refine lv_aload_n hx hb dX2_putFirst_0 rfl (lv_at hl 0 rfl) ?_
  refine lv_iload_n hx hb dX2_putFirst_1 rfl (lv_at hl 1 rfl) ?_
  have hPc : va_P K.1 vwCl (hw K h a S) H := hP
  refine xr_V (As := [.int (nI r)]) (rest := []) ⟨hx, hb, hml, hown, hts⟩ (c_X2_hasRole_n l K h a S r (by first | assumption | omega) R hR0 (by omega)) (cwV 1 hts gX2_putFirst_X2_hasRole rfl rfl rfl (by decide +kernel) ⟨Nat.le_of_ble_eq_true rfl, Nat.le_of_ble_eq_true rfl⟩) hK hPc 0 2 rfl rfl rfl rfl hl.1 rfl (Nat.le_of_ble_eq_true rfl) (Nat.le_of_ble_eq_true rfl) (Nat.le_of_ble_eq_true rfl) dX2_putFirst_2 ?_
  refine xb_if_eq (tgt := 16) hx hb dX2_putFirst_5 (by decide) (fun c_5 => ?_) (fun c_5 => ?_)
  · skip
    refine lv_iconst (v := (0 : Int32)) hx hb dX2_putFirst_16 (by decide) ?_
    have eS0 : (S) = if p < P ∧ r < R then hset S 1 r (nI p) else S := by first | exact (if_pos (by omega)).symm | exact (if_neg (by omega)).symm
    rw [eS0] at hP hD
    exact hend _ _ _ _ _ _ _ (by decide) () hP hD hS (Nat.le_of_ble_eq_true rfl) (Nat.le_of_ble_eq_true rfl) (by first | exact (bI_t (by omega)).symm | exact (bI_f (by omega)).symm) dX2_putFirst_17
  · skip
    refine lv_aload_n hx hb dX2_putFirst_8 rfl (lv_at hl 0 rfl) ?_
    refine lv_iload_n hx hb dX2_putFirst_9 rfl (lv_at hl 2 rfl) ?_
    have hPc : va_P K.1 vwCl (hw K h a S) H := hP
    refine xr_V (As := [.int (nI p)]) (rest := []) ⟨hx, hb, hml, hown, hts⟩ (c_X2_hasPlayer_n l K h a S p (by first | assumption | omega) P hP0 (by omega)) (cwV 1 hts gX2_putFirst_X2_hasPlayer rfl rfl rfl (by decide +kernel) ⟨Nat.le_of_ble_eq_true rfl, Nat.le_of_ble_eq_true rfl⟩) hK hPc 0 2 rfl rfl rfl rfl hl.1 rfl (Nat.le_of_ble_eq_true rfl) (Nat.le_of_ble_eq_true rfl) (Nat.le_of_ble_eq_true rfl) dX2_putFirst_10 ?_
    refine xb_if_ne (tgt := 18) hx hb dX2_putFirst_13 (by decide) (fun c_13 => ?_) (fun c_13 => ?_)
    · skip
      refine lv_aload_n hx hb dX2_putFirst_18 rfl (lv_at hl 0 rfl) ?_
      refine va_get (ci := 2) (v := .ref (a 1)) (C := RX2) (T := TX2) (N := 17) hx hb hts hi2 hown hK hP 0 rfl rfl 1 (by decide) lk15 (fun _ h9 => h9) rfl dX2_putFirst_19 ?_
      refine lv_iload_n hx hb dX2_putFirst_22 rfl (lv_at hl 1 rfl) ?_
      refine lv_iload_n hx hb dX2_putFirst_23 rfl (lv_at hl 2 rfl) ?_
      refine xi_st hx hb hK hP hD hS 2 (f := S 1) rfl r rfl (by omega) (by decide) (hw K h a (hset S 1 r (nI p))) rfl dX2_putFirst_24 (fun H locs hP hD hS => ?_)
      refine lv_iconst (v := (1 : Int32)) hx hb dX2_putFirst_25 (by decide) ?_
      have eS0 : (hset S 1 r (nI p)) = if p < P ∧ r < R then hset S 1 r (nI p) else S := by first | exact (if_pos (by omega)).symm | exact (if_neg (by omega)).symm
      rw [eS0] at hP hD
      exact hend _ _ _ _ _ _ _ (by decide) () hP hD hS (Nat.le_of_ble_eq_true rfl) (Nat.le_of_ble_eq_true rfl) (by first | exact (bI_t (by omega)).symm | exact (bI_f (by omega)).symm) dX2_putFirst_26
    · skip
      refine lv_iconst (v := (0 : Int32)) hx hb dX2_putFirst_16 (by decide) ?_
      have eS0 : (S) = if p < P ∧ r < R then hset S 1 r (nI p) else S := by first | exact (if_pos (by omega)).symm | exact (if_neg (by omega)).symm
      rw [eS0] at hP hD
      exact hend _ _ _ _ _ _ _ (by decide) () hP hD hS (Nat.le_of_ble_eq_true rfl) (Nat.le_of_ble_eq_true rfl) (by first | exact (bI_t (by omega)).symm | exact (bI_f (by omega)).symm) dX2_putFirst_17

abbrev rm_X2_sendAway : Room := { frames := 1, cells := 0, slots := 0, locals := 21 }
set_option maxHeartbeats 4000000 in
set_option maxRecDepth 100000 in
theorem c_X2_sendAway (l : Launch) (K : KX) (h : Nat) (a : Nat → Nat) (S : HV) (p : Nat) (d : Nat) (hp : p < 2 ^ 31) (hd : d < 2 ^ 31) (P : Nat) (hP0 : S 11 0 = nI P) (hP0b : P ≤ 10) (sz : Nat) : Met l yX2_sendAway wsX2_sendAway rm_X2_sendAway (va_Pc [.ref h, .int (nI p), .int (nI d)] (xPre K (hw K h a S) sz)) (va_Qi (fun (r9 : Int32) (_u : Unit) => r9 = bI (p < P ∧ 1 ≤ d ∧ d ≤ 99)) (fun _u t => xPost K (va_A (hw K h a S) sz) (hw K h a (if p < P ∧ 1 ≤ d ∧ d ≤ 99 then hAway S p d else S)) t) (va_A (hw K h a S) sz)) 0 0 (va_A (hw K h a S) sz) := by
  refine xw_startz (cc := cX2_sendAway) (maxL := 3) (ret := .boolean) (by decide) rfl (Nat.le_of_ble_eq_true rfl) ?_
  intro p9 e9 s9 m9 below9 meth9 c9 H locs ls A av9 Q9 hx hb hlocks hml hname hts hown hK hP hD hS hA hsz hend hl
  have hown : s9.vm.findClass RX2 = some m9.cls := hown
  have hl : lv_has ls 3 [(0, .ref h), (1, .int (nI p)), (2, .int (nI d))] := hl
  have hi2 : ∀ w ∈ u_ws RX2 TX2 17, w ∈ wsX2_sendAway := by decide +kernel
  have lk33 := hts (.fieldLink RX2 33 "StandIns$House" "backDays" "[I") (by decide +kernel)
  have lk59 := hts (.fieldLink RX2 59 "StandIns$House" "today" "I") (by decide +kernel)
  refine lv_aload_n hx hb dX2_sendAway_0 rfl (lv_at hl 0 rfl) ?_
  refine lv_iload_n hx hb dX2_sendAway_1 rfl (lv_at hl 1 rfl) ?_
  have hPc : va_P K.1 vwCl (hw K h a S) H := hP
  refine xr_V (As := [.int (nI p)]) (rest := []) ⟨hx, hb, hml, hown, hts⟩ (c_X2_hasPlayer_n l K h a S p (by first | assumption | omega) P hP0 (by omega)) (cwV 1 hts gX2_sendAway_X2_hasPlayer rfl rfl rfl (by decide +kernel) ⟨Nat.le_of_ble_eq_true rfl, Nat.le_of_ble_eq_true rfl⟩) hK hPc 0 2 rfl rfl rfl rfl hl.1 rfl (Nat.le_of_ble_eq_true rfl) (Nat.le_of_ble_eq_true rfl) (Nat.le_of_ble_eq_true rfl) dX2_sendAway_2 ?_
  refine xb_if_eq (tgt := 19) hx hb dX2_sendAway_5 (by decide) (fun c_5 => ?_) (fun c_5 => ?_)
  · skip
    refine lv_iconst (v := (0 : Int32)) hx hb dX2_sendAway_19 (by decide) ?_
    have eS0 : (S) = if p < P ∧ 1 ≤ d ∧ d ≤ 99 then hAway S p d else S := by first | exact (if_pos (by omega)).symm | exact (if_neg (by omega)).symm
    rw [eS0] at hP hD
    exact hend _ _ _ _ _ _ _ (by decide) () hP hD hS (Nat.le_of_ble_eq_true rfl) (Nat.le_of_ble_eq_true rfl) (by first | exact (bI_t (by omega)).symm | exact (bI_f (by omega)).symm) dX2_sendAway_20
  · skip
    refine lv_iload_n hx hb dX2_sendAway_8 rfl (lv_at hl 2 rfl) ?_
    refine lv_iconst (v := (1 : Int32)) hx hb dX2_sendAway_9 (by decide) ?_
    refine xn_icmp_lt (tgt := 19) hx hb d 1 rfl rfl (by omega) (by decide) dX2_sendAway_10 (by decide) (fun c_10 => ?_) (fun c_10 => ?_)
    · skip
      refine lv_iconst (v := (0 : Int32)) hx hb dX2_sendAway_19 (by decide) ?_
      have eS0 : (S) = if p < P ∧ 1 ≤ d ∧ d ≤ 99 then hAway S p d else S := by first | exact (if_pos (by omega)).symm | exact (if_neg (by omega)).symm
      rw [eS0] at hP hD
      exact hend _ _ _ _ _ _ _ (by decide) () hP hD hS (Nat.le_of_ble_eq_true rfl) (Nat.le_of_ble_eq_true rfl) (by first | exact (bI_t (by omega)).symm | exact (bI_f (by omega)).symm) dX2_sendAway_20
    · skip
      refine lv_iload_n hx hb dX2_sendAway_13 rfl (lv_at hl 2 rfl) ?_
      refine lv_bipush (v := (99 : Int32)) hx hb dX2_sendAway_14 (by decide) ?_
      refine xn_icmp_le (tgt := 21) hx hb d 99 rfl rfl (by omega) (by decide) dX2_sendAway_16 (by decide) (fun c_16 => ?_) (fun c_16 => ?_)
      · skip
        refine lv_aload_n hx hb dX2_sendAway_21 rfl (lv_at hl 0 rfl) ?_
        refine va_get (ci := 2) (v := .ref (a 7)) (C := RX2) (T := TX2) (N := 17) hx hb hts hi2 hown hK hP 0 rfl rfl 7 (by decide) lk33 (fun _ h9 => h9) rfl dX2_sendAway_22 ?_
        refine lv_iload_n hx hb dX2_sendAway_25 rfl (lv_at hl 1 rfl) ?_
        refine lv_aload_n hx hb dX2_sendAway_26 rfl (lv_at hl 0 rfl) ?_
        refine va_get (ci := 2) (v := .int (S 12 0)) (C := RX2) (T := TX2) (N := 17) hx hb hts hi2 hown hK hP 0 rfl rfl 12 (by decide) lk59 (fun _ h9 => h9) rfl dX2_sendAway_27 ?_
        refine lv_iload_n hx hb dX2_sendAway_30 rfl (lv_at hl 2 rfl) ?_
        refine lv_iadd hx hb dX2_sendAway_31 ?_
        refine xi_st hx hb hK hP hD hS 8 (f := S 7) rfl p rfl (by omega) (by decide) (hw K h a (hset S 7 p ((S 12 0) + (nI d)))) rfl dX2_sendAway_32 (fun H locs hP hD hS => ?_)
        refine lv_iconst (v := (1 : Int32)) hx hb dX2_sendAway_33 (by decide) ?_
        have eS0 : (hset S 7 p ((S 12 0) + (nI d))) = if p < P ∧ 1 ≤ d ∧ d ≤ 99 then hAway S p d else S := by first | exact (if_pos (by omega)).symm | exact (if_neg (by omega)).symm
        rw [eS0] at hP hD
        exact hend _ _ _ _ _ _ _ (by decide) () hP hD hS (Nat.le_of_ble_eq_true rfl) (Nat.le_of_ble_eq_true rfl) (by first | exact (bI_t (by omega)).symm | exact (bI_f (by omega)).symm) dX2_sendAway_34
      · skip
        refine lv_iconst (v := (0 : Int32)) hx hb dX2_sendAway_19 (by decide) ?_
        have eS0 : (S) = if p < P ∧ 1 ≤ d ∧ d ≤ 99 then hAway S p d else S := by first | exact (if_pos (by omega)).symm | exact (if_neg (by omega)).symm
        rw [eS0] at hP hD
        exact hend _ _ _ _ _ _ _ (by decide) () hP hD hS (Nat.le_of_ble_eq_true rfl) (Nat.le_of_ble_eq_true rfl) (by first | exact (bI_t (by omega)).symm | exact (bI_f (by omega)).symm) dX2_sendAway_20

abbrev rm_X2_passDays : Room := { frames := 1, cells := 0, slots := 0, locals := 22 }
set_option maxHeartbeats 4000000 in
set_option maxRecDepth 100000 in
theorem c_X2_passDays (l : Launch) (K : KX) (h : Nat) (a : Nat → Nat) (S : HV) (n : Nat) (hn : n < 2 ^ 31) (sz : Nat) : Met l yX2_passDays wsX2_passDays rm_X2_passDays (va_Pc [.ref h, .int (nI n)] (xPre K (hw K h a S) sz)) (va_Qi (fun (r9 : Int32) (_u : Unit) => r9 = bI (1 ≤ n ∧ n ≤ 99)) (fun _u t => xPost K (va_A (hw K h a S) sz) (hw K h a (if 1 ≤ n ∧ n ≤ 99 then hPass S n else S)) t) (va_A (hw K h a S) sz)) 0 0 (va_A (hw K h a S) sz) := by
  refine xw_startz (cc := cX2_passDays) (maxL := 2) (ret := .boolean) (by decide) rfl (Nat.le_of_ble_eq_true rfl) ?_
  intro p9 e9 s9 m9 below9 meth9 c9 H locs ls A av9 Q9 hx hb hlocks hml hname hts hown hK hP hD hS hA hsz hend hl
  have hown : s9.vm.findClass RX2 = some m9.cls := hown
  have hl : lv_has ls 2 [(0, .ref h), (1, .int (nI n))] := hl
  have hi2 : ∀ w ∈ u_ws RX2 TX2 17, w ∈ wsX2_passDays := by decide +kernel
  have lk30 := hts (.fieldLink RX2 30 "StandIns$House" "rows" "[I") (by decide +kernel)
  have lk59 := hts (.fieldLink RX2 59 "StandIns$House" "today" "I") (by decide +kernel)
  have lk71 := hts (.fieldLink RX2 71 "StandIns$House" "posted" "Z") (by decide +kernel)
  refine lv_iload_n hx hb dX2_passDays_0 rfl (lv_at hl 1 rfl) ?_
  refine lv_iconst (v := (1 : Int32)) hx hb dX2_passDays_1 (by decide) ?_
  refine xn_icmp_lt (tgt := 11) hx hb n 1 rfl rfl (by omega) (by decide) dX2_passDays_2 (by decide) (fun c_2 => ?_) (fun c_2 => ?_)
  · skip
    refine lv_iconst (v := (0 : Int32)) hx hb dX2_passDays_11 (by decide) ?_
    have eS0 : (S) = if 1 ≤ n ∧ n ≤ 99 then hPass S n else S := by first | exact (if_pos (by omega)).symm | exact (if_neg (by omega)).symm
    rw [eS0] at hP hD
    exact hend _ _ _ _ _ _ _ (by decide) () hP hD hS (Nat.le_of_ble_eq_true rfl) (Nat.le_of_ble_eq_true rfl) (by first | exact (bI_t (by omega)).symm | exact (bI_f (by omega)).symm) dX2_passDays_12
  · skip
    refine lv_iload_n hx hb dX2_passDays_5 rfl (lv_at hl 1 rfl) ?_
    refine lv_bipush (v := (99 : Int32)) hx hb dX2_passDays_6 (by decide) ?_
    refine xn_icmp_le (tgt := 13) hx hb n 99 rfl rfl (by omega) (by decide) dX2_passDays_8 (by decide) (fun c_8 => ?_) (fun c_8 => ?_)
    · skip
      refine lv_aload_n hx hb dX2_passDays_13 rfl (lv_at hl 0 rfl) ?_
      refine va_get (ci := 2) (v := .ref (a 6)) (C := RX2) (T := TX2) (N := 17) hx hb hts hi2 hown hK hP 0 rfl rfl 6 (by decide) lk30 (fun _ h9 => h9) rfl dX2_passDays_14 ?_
      refine lv_iconst (v := (0 : Int32)) hx hb dX2_passDays_17 (by decide) ?_
      refine xw_Sv (As := [.ref (a 6), .int (0 : Int32)]) (rest := []) (wc := [((a 6), aI K 10 (S 6))]) (wr := (List.filterMap (fun i => (hw K h a S : va_W)[i]?) ([0, 1, 2, 3, 4, 5, 6, 8, 9, 10] : List Nat))) ⟨hx, hb, hml, hown, hts⟩ (c_X2_fill l K (a 6) (S 6) 10 (by decide) (0 : Int32) H.size) (va_cwS 2 hts gX2_passDays_X2_fill rfl rfl rfl (by decide +kernel) ⟨Nat.le_of_ble_eq_true rfl, Nat.le_of_ble_eq_true rfl⟩) hK hP hD hS hA [7] [0, 1, 2, 3, 4, 5, 6, 8, 9, 10] [0, 1, 2, 3, 4, 5, 6, 10, 7, 8, 9] rfl rfl rfl (fun _u => hw K h a (hrow S 6 (fun _ => (0 : Int32)))) (fun _ => rfl) rfl hl.1 rfl (Nat.le_of_ble_eq_true rfl) (Nat.le_of_ble_eq_true rfl) (Nat.le_of_ble_eq_true rfl) dX2_passDays_18 (fun _ H locs hq18 hP hD hS => ?_)
      have hP : va_P K.1 vwCl (hw K h a (hrow S 6 (fun _ => (0 : Int32)))) H := hP
      have hD : va_D A (hw K h a (hrow S 6 (fun _ => (0 : Int32)))) := hD
      refine lv_aload_n hx hb dX2_passDays_21 rfl (lv_at hl 0 rfl) ?_
      refine lv_dup hx hb dX2_passDays_22 rfl ?_
      refine va_get (ci := 2) (v := .int (S 12 0)) (C := RX2) (T := TX2) (N := 17) hx hb hts hi2 hown hK hP 0 rfl rfl 12 (by decide) lk59 (fun _ h9 => h9) rfl dX2_passDays_23 ?_
      refine lv_iload_n hx hb dX2_passDays_26 rfl (lv_at hl 1 rfl) ?_
      refine lv_iadd hx hb dX2_passDays_27 ?_
      refine va_put (ci := 2) (v := .int ((S 12 0) + (nI n))) (ty := .int) (C := RX2) (T := TX2) (N := 17) hx hb hts hi2 tyX2 tyX2_ok nmX2 hown hK hP hD hS 0 rfl rfl 12 (by decide) lk59 (fun _ h9 => h9) rfl (by decide +kernel) rfl rfl (Nat.le_of_ble_eq_true rfl) dX2_passDays_28 (fun H locs hP hD hS => ?_)
      have hP : va_P K.1 vwCl (hw K h a (hput (hrow S 6 (fun _ => (0 : Int32))) 12 ((S 12 0) + (nI n)))) H := hP
      have hD : va_D A (hw K h a (hput (hrow S 6 (fun _ => (0 : Int32))) 12 ((S 12 0) + (nI n)))) := hD
      refine lv_aload_n hx hb dX2_passDays_31 rfl (lv_at hl 0 rfl) ?_
      refine lv_iconst (v := (0 : Int32)) hx hb dX2_passDays_32 (by decide) ?_
      refine va_put (ci := 2) (v := .int (0 : Int32)) (ty := .boolean) (C := RX2) (T := TX2) (N := 17) hx hb hts hi2 tyX2 tyX2_ok nmX2 hown hK hP hD hS 0 rfl rfl 16 (by decide) lk71 (fun _ h9 => h9) rfl (by decide +kernel) rfl rfl (Nat.le_of_ble_eq_true rfl) dX2_passDays_33 (fun H locs hP hD hS => ?_)
      have hP : va_P K.1 vwCl (hw K h a (hput (hput (hrow S 6 (fun _ => (0 : Int32))) 12 ((S 12 0) + (nI n))) 16 (0 : Int32))) H := hP
      have hD : va_D A (hw K h a (hput (hput (hrow S 6 (fun _ => (0 : Int32))) 12 ((S 12 0) + (nI n))) 16 (0 : Int32))) := hD
      refine lv_iconst (v := (1 : Int32)) hx hb dX2_passDays_36 (by decide) ?_
      have eS0 : (hput (hput (hrow S 6 (fun _ => (0 : Int32))) 12 ((S 12 0) + (nI n))) 16 (0 : Int32)) = if 1 ≤ n ∧ n ≤ 99 then hPass S n else S := by first | exact (if_pos (by omega)).symm | exact (if_neg (by omega)).symm
      rw [eS0] at hP hD
      exact hend _ _ _ _ _ _ _ (by decide) () hP hD hS (Nat.le_of_ble_eq_true rfl) (Nat.le_of_ble_eq_true rfl) (by first | exact (bI_t (by omega)).symm | exact (bI_f (by omega)).symm) dX2_passDays_37
    · skip
      refine lv_iconst (v := (0 : Int32)) hx hb dX2_passDays_11 (by decide) ?_
      have eS0 : (S) = if 1 ≤ n ∧ n ≤ 99 then hPass S n else S := by first | exact (if_pos (by omega)).symm | exact (if_neg (by omega)).symm
      rw [eS0] at hP hD
      exact hend _ _ _ _ _ _ _ (by decide) () hP hD hS (Nat.le_of_ble_eq_true rfl) (Nat.le_of_ble_eq_true rfl) (by first | exact (bI_t (by omega)).symm | exact (bI_f (by omega)).symm) dX2_passDays_12

abbrev rm_X2_putSetting : Room := { frames := 0, cells := 0, slots := 0, locals := 0 }
set_option maxHeartbeats 4000000 in
set_option maxRecDepth 100000 in
theorem c_X2_putSetting (l : Launch) (K : KX) (h : Nat) (a : Nat → Nat) (S : HV) (k : Nat) (hk : k < 5) (v : Int32) (sz : Nat) : Met l yX2_putSetting wsX2_putSetting rm_X2_putSetting (va_Pc [.ref h, .int (nI k), .int v] (xPre K (hw K h a S) sz)) (va_Qv (fun _u : Unit => True) (fun _u t => xPost K (va_A (hw K h a S) sz) (hw K h a (hset S 9 k v)) t) (va_A (hw K h a S) sz)) 0 0 (va_A (hw K h a S) sz) := by
  refine xw_startv (cc := cX2_putSetting) (maxL := 3) (by decide) rfl (Nat.le_of_ble_eq_true rfl) ?_
  intro p9 e9 s9 m9 below9 meth9 c9 H locs ls A av9 Q9 hx hb hlocks hml hname hts hown hK hP hD hS hA hsz hend hl
  have hown : s9.vm.findClass RX2 = some m9.cls := hown
  have hl : lv_has ls 3 [(0, .ref h), (1, .int (nI k)), (2, .int v)] := hl
  have hi2 : ∀ w ∈ u_ws RX2 TX2 17, w ∈ wsX2_putSetting := by decide +kernel
  have lk39 := hts (.fieldLink RX2 39 "StandIns$House" "settings" "[I") (by decide +kernel)
  refine lv_aload_n hx hb dX2_putSetting_0 rfl (lv_at hl 0 rfl) ?_
  refine va_get (ci := 2) (v := .ref (a 9)) (C := RX2) (T := TX2) (N := 17) hx hb hts hi2 hown hK hP 0 rfl rfl 9 (by decide) lk39 (fun _ h9 => h9) rfl dX2_putSetting_1 ?_
  refine lv_iload_n hx hb dX2_putSetting_4 rfl (lv_at hl 1 rfl) ?_
  refine lv_iload_n hx hb dX2_putSetting_5 rfl (lv_at hl 2 rfl) ?_
  refine xi_st hx hb hK hP hD hS 10 (f := S 9) rfl k rfl (by omega) (by decide) (hw K h a (hset S 9 k v)) rfl dX2_putSetting_6 (fun H locs hP hD hS => ?_)
  exact hend _ _ _ _ _ _ () hP hD hS (Nat.le_of_ble_eq_true rfl) (Nat.le_of_ble_eq_true rfl) trivial dX2_putSetting_7

abbrev rm_X2_payFor : Room := { frames := 1, cells := 0, slots := 0, locals := 21 }
set_option maxHeartbeats 4000000 in
set_option maxRecDepth 100000 in
theorem c_X2_payFor (l : Launch) (K : KX) (h : Nat) (a : Nat → Nat) (S : HV) (r : Nat) (hr : r < 6) (p : Nat) (hp : p < 10) (sz : Nat) : Met l yX2_payFor wsX2_payFor rm_X2_payFor (va_Pc [.ref h, .int (nI r), .int (nI p)] (xPre K (hw K h a S) sz)) (va_Qi (fun (r9 : Int32) (_u : Unit) => r9 = pPay S r p) (fun _u t => xPost K (va_A (hw K h a S) sz) (hw K h a (hPay S r p)) t) (va_A (hw K h a S) sz)) 0 0 (va_A (hw K h a S) sz) := by
  refine xw_starti (cc := cX2_payFor) (maxL := 4) (by decide) rfl (Nat.le_of_ble_eq_true rfl) ?_
  intro p9 e9 s9 m9 below9 meth9 c9 H locs ls A av9 Q9 hx hb hlocks hml hname hts hown hK hP hD hS hA hsz hend hl
  have hown : s9.vm.findClass RX2 = some m9.cls := hown
  have hl : lv_has ls 4 [(0, .ref h), (1, .int (nI r)), (2, .int (nI p))] := hl
  have hi2 : ∀ w ∈ u_ws RX2 TX2 17, w ∈ wsX2_payFor := by decide +kernel
  have lk39 := hts (.fieldLink RX2 39 "StandIns$House" "settings" "[I") (by decide +kernel)
  have lk9 := hts (.fieldLink RX2 9 "StandIns$House" "weights" "[I") (by decide +kernel)
  have lk15 := hts (.fieldLink RX2 15 "StandIns$House" "firstPlayers" "[I") (by decide +kernel)
  have lk71 := hts (.fieldLink RX2 71 "StandIns$House" "posted" "Z") (by decide +kernel)
  have lk27 := hts (.fieldLink RX2 27 "StandIns$House" "pays" "[I") (by decide +kernel)
  have lk36 := hts (.fieldLink RX2 36 "StandIns$House" "shows" "[I") (by decide +kernel)
  have lk24 := hts (.fieldLink RX2 24 "StandIns$House" "times" "[I") (by decide +kernel)
  have lk18 := hts (.fieldLink RX2 18 "StandIns$House" "postedPlayers" "[I") (by decide +kernel)
  have lk68 := hts (.fieldLink RX2 68 "StandIns$House" "standIns" "I") (by decide +kernel)
  refine lv_aload_n hx hb dX2_payFor_0 rfl (lv_at hl 0 rfl) ?_
  refine va_get (ci := 2) (v := .ref (a 9)) (C := RX2) (T := TX2) (N := 17) hx hb hts hi2 hown hK hP 0 rfl rfl 9 (by decide) lk39 (fun _ h9 => h9) rfl dX2_payFor_1 ?_
  refine lv_iconst (v := (1 : Int32)) hx hb dX2_payFor_4 (by decide) ?_
  refine xi_ld hx hb hK hP 10 (f := S 9) rfl 1 rfl (by omega) (by decide) dX2_payFor_5 ?_
  refine lv_aload_n hx hb dX2_payFor_6 rfl (lv_at hl 0 rfl) ?_
  refine va_get (ci := 2) (v := .ref (a 0)) (C := RX2) (T := TX2) (N := 17) hx hb hts hi2 hown hK hP 0 rfl rfl 0 (by decide) lk9 (fun _ h9 => h9) rfl dX2_payFor_7 ?_
  refine lv_iload_n hx hb dX2_payFor_10 rfl (lv_at hl 1 rfl) ?_
  refine xi_ld hx hb hK hP 1 (f := S 0) rfl r rfl (by omega) (by decide) dX2_payFor_11 ?_
  refine lv_aload_n hx hb dX2_payFor_12 rfl (lv_at hl 0 rfl) ?_
  refine va_get (ci := 2) (v := .ref (a 9)) (C := RX2) (T := TX2) (N := 17) hx hb hts hi2 hown hK hP 0 rfl rfl 9 (by decide) lk39 (fun _ h9 => h9) rfl dX2_payFor_13 ?_
  refine lv_iconst (v := (2 : Int32)) hx hb dX2_payFor_16 (by decide) ?_
  refine xi_ld hx hb hK hP 10 (f := S 9) rfl 2 rfl (by omega) (by decide) dX2_payFor_17 ?_
  refine lv_imul hx hb dX2_payFor_18 ?_
  refine lv_iadd hx hb dX2_payFor_19 ?_
  refine lv_istore_n (lv' := [(3, .int ((S 9 1) + ((S 0 r) * (S 9 2)))), (0, .ref h), (1, .int (nI r)), (2, .int (nI p))]) hx hb dX2_payFor_20 rfl hl (by decide) rfl (fun ls hl => ?_)
  refine lv_aload_n hx hb dX2_payFor_21 rfl (lv_at hl 1 rfl) ?_
  refine va_get (ci := 2) (v := .ref (a 1)) (C := RX2) (T := TX2) (N := 17) hx hb hts hi2 hown hK hP 0 rfl rfl 1 (by decide) lk15 (fun _ h9 => h9) rfl dX2_payFor_22 ?_
  refine lv_iload_n hx hb dX2_payFor_25 rfl (lv_at hl 2 rfl) ?_
  refine xi_ld hx hb hK hP 2 (f := S 1) rfl r rfl (by omega) (by decide) dX2_payFor_26 ?_
  refine lv_iload_n hx hb dX2_payFor_27 rfl (lv_at hl 3 rfl) ?_
  refine lv_icmp_eq (tgt := 50) hx hb dX2_payFor_28 (by decide) (fun c_28 => ?_) (fun c_28 => ?_)
  · skip
    refine lv_aload_n hx hb dX2_payFor_50 rfl (lv_at hl 1 rfl) ?_
    refine va_get (ci := 2) (v := .int (S 16 0)) (C := RX2) (T := TX2) (N := 17) hx hb hts hi2 hown hK hP 0 rfl rfl 16 (by decide) lk71 (fun _ h9 => h9) rfl dX2_payFor_51 ?_
    refine lv_if_eq (tgt := 76) hx hb dX2_payFor_54 (by decide) (fun c_54 => ?_) (fun c_54 => ?_)
    · skip
      refine lv_aload_n hx hb dX2_payFor_76 rfl (lv_at hl 1 rfl) ?_
      refine va_get (ci := 2) (v := .ref (a 5)) (C := RX2) (T := TX2) (N := 17) hx hb hts hi2 hown hK hP 0 rfl rfl 5 (by decide) lk27 (fun _ h9 => h9) rfl dX2_payFor_77 ?_
      refine lv_iload_n hx hb dX2_payFor_80 rfl (lv_at hl 3 rfl) ?_
      refine lv_dup2_11 hx hb dX2_payFor_81 rfl rfl ?_
      refine xi_ld hx hb hK hP 6 (f := S 5) rfl p rfl (by omega) (by decide) dX2_payFor_82 ?_
      refine lv_iload_n hx hb dX2_payFor_83 rfl (lv_at hl 0 rfl) ?_
      refine lv_iadd hx hb dX2_payFor_84 ?_
      refine xi_st hx hb hK hP hD hS 6 (f := S 5) rfl p rfl (by omega) (by decide) (hw K h a (hset S 5 p ((S 5 p) + ((S 9 1) + ((S 0 r) * (S 9 2)))))) rfl dX2_payFor_85 (fun H locs hP hD hS => ?_)
      refine lv_aload_n hx hb dX2_payFor_86 rfl (lv_at hl 1 rfl) ?_
      refine va_get (ci := 2) (v := .ref (a 8)) (C := RX2) (T := TX2) (N := 17) hx hb hts hi2 hown hK hP 0 rfl rfl 8 (by decide) lk36 (fun _ h9 => h9) rfl dX2_payFor_87 ?_
      refine lv_iload_n hx hb dX2_payFor_90 rfl (lv_at hl 3 rfl) ?_
      refine lv_dup2_11 hx hb dX2_payFor_91 rfl rfl ?_
      refine xi_ld hx hb hK hP 9 (f := S 8) rfl p rfl (by omega) (by decide) dX2_payFor_92 ?_
      refine lv_iconst (v := (1 : Int32)) hx hb dX2_payFor_93 (by decide) ?_
      refine lv_iadd hx hb dX2_payFor_94 ?_
      refine xi_st hx hb hK hP hD hS 9 (f := S 8) rfl p rfl (by omega) (by decide) (hw K h a (hset (hset S 5 p ((S 5 p) + ((S 9 1) + ((S 0 r) * (S 9 2))))) 8 p ((S 8 p) + (1 : Int32)))) rfl dX2_payFor_95 (fun H locs hP hD hS => ?_)
      refine lv_aload_n hx hb dX2_payFor_96 rfl (lv_at hl 1 rfl) ?_
      refine va_get (ci := 2) (v := .ref (a 4)) (C := RX2) (T := TX2) (N := 17) hx hb hts hi2 hown hK hP 0 rfl rfl 4 (by decide) lk24 (fun _ h9 => h9) rfl dX2_payFor_97 ?_
      refine lv_iload_n hx hb dX2_payFor_100 rfl (lv_at hl 3 rfl) ?_
      refine lv_iload_n hx hb dX2_payFor_101 rfl (lv_at hl 2 rfl) ?_
      have hPc := P_sub (ws' := []) hP [] rfl
      refine xr_S (As := [.int (nI p), .int (nI r)]) (rest := [.ref (a 4)]) ⟨hx, hb, hml, hown, hts⟩ (c_X2_cell l K p r) (va_cwS 2 hts gX2_payFor_X2_cell rfl rfl rfl (by decide +kernel) ⟨Nat.le_of_ble_eq_true rfl, Nat.le_of_ble_eq_true rfl⟩) hK hPc rfl hl.1 rfl (Nat.le_of_ble_eq_true rfl) (Nat.le_of_ble_eq_true rfl) (Nat.le_of_ble_eq_true rfl) dX2_payFor_102 ?_
      refine lv_dup2_11 hx hb dX2_payFor_105 rfl rfl ?_
      refine xi_ld hx hb hK hP 5 (f := S 4) rfl (r * 10 + p) rfl (by omega) (by decide) dX2_payFor_106 ?_
      refine lv_iconst (v := (1 : Int32)) hx hb dX2_payFor_107 (by decide) ?_
      refine lv_iadd hx hb dX2_payFor_108 ?_
      refine xi_st hx hb hK hP hD hS 5 (f := S 4) rfl (r * 10 + p) rfl (by omega) (by decide) (hw K h a (hset (hset (hset S 5 p ((S 5 p) + ((S 9 1) + ((S 0 r) * (S 9 2))))) 8 p ((S 8 p) + (1 : Int32))) 4 (r * 10 + p) ((S 4 (r * 10 + p)) + (1 : Int32)))) rfl dX2_payFor_109 (fun H locs hP hD hS => ?_)
      refine lv_iload_n hx hb dX2_payFor_110 rfl (lv_at hl 0 rfl) ?_
      have eS0 : (hset (hset (hset S 5 p ((S 5 p) + ((S 9 1) + ((S 0 r) * (S 9 2))))) 8 p ((S 8 p) + (1 : Int32))) 4 (r * 10 + p) ((S 4 (r * 10 + p)) + (1 : Int32))) = hPay S r p := by (simp only [hPay, pPay, c_28, c_54]; simp; done)
      rw [eS0] at hP hD
      exact hend _ _ _ _ _ _ _ () hP hD hS (Nat.le_of_ble_eq_true rfl) (Nat.le_of_ble_eq_true rfl) (by (simp [pPay, c_28, c_54]; done)) dX2_payFor_111
    · skip
      refine lv_aload_n hx hb dX2_payFor_57 rfl (lv_at hl 1 rfl) ?_
      refine va_get (ci := 2) (v := .ref (a 2)) (C := RX2) (T := TX2) (N := 17) hx hb hts hi2 hown hK hP 0 rfl rfl 2 (by decide) lk18 (fun _ h9 => h9) rfl dX2_payFor_58 ?_
      refine lv_iload_n hx hb dX2_payFor_61 rfl (lv_at hl 2 rfl) ?_
      refine xi_ld hx hb hK hP 3 (f := S 2) rfl r rfl (by omega) (by decide) dX2_payFor_62 ?_
      refine lv_iload_n hx hb dX2_payFor_63 rfl (lv_at hl 3 rfl) ?_
      refine lv_icmp_eq (tgt := 76) hx hb dX2_payFor_64 (by decide) (fun c_64 => ?_) (fun c_64 => ?_)
      · skip
        refine lv_aload_n hx hb dX2_payFor_76 rfl (lv_at hl 1 rfl) ?_
        refine va_get (ci := 2) (v := .ref (a 5)) (C := RX2) (T := TX2) (N := 17) hx hb hts hi2 hown hK hP 0 rfl rfl 5 (by decide) lk27 (fun _ h9 => h9) rfl dX2_payFor_77 ?_
        refine lv_iload_n hx hb dX2_payFor_80 rfl (lv_at hl 3 rfl) ?_
        refine lv_dup2_11 hx hb dX2_payFor_81 rfl rfl ?_
        refine xi_ld hx hb hK hP 6 (f := S 5) rfl p rfl (by omega) (by decide) dX2_payFor_82 ?_
        refine lv_iload_n hx hb dX2_payFor_83 rfl (lv_at hl 0 rfl) ?_
        refine lv_iadd hx hb dX2_payFor_84 ?_
        refine xi_st hx hb hK hP hD hS 6 (f := S 5) rfl p rfl (by omega) (by decide) (hw K h a (hset S 5 p ((S 5 p) + ((S 9 1) + ((S 0 r) * (S 9 2)))))) rfl dX2_payFor_85 (fun H locs hP hD hS => ?_)
        refine lv_aload_n hx hb dX2_payFor_86 rfl (lv_at hl 1 rfl) ?_
        refine va_get (ci := 2) (v := .ref (a 8)) (C := RX2) (T := TX2) (N := 17) hx hb hts hi2 hown hK hP 0 rfl rfl 8 (by decide) lk36 (fun _ h9 => h9) rfl dX2_payFor_87 ?_
        refine lv_iload_n hx hb dX2_payFor_90 rfl (lv_at hl 3 rfl) ?_
        refine lv_dup2_11 hx hb dX2_payFor_91 rfl rfl ?_
        refine xi_ld hx hb hK hP 9 (f := S 8) rfl p rfl (by omega) (by decide) dX2_payFor_92 ?_
        refine lv_iconst (v := (1 : Int32)) hx hb dX2_payFor_93 (by decide) ?_
        refine lv_iadd hx hb dX2_payFor_94 ?_
        refine xi_st hx hb hK hP hD hS 9 (f := S 8) rfl p rfl (by omega) (by decide) (hw K h a (hset (hset S 5 p ((S 5 p) + ((S 9 1) + ((S 0 r) * (S 9 2))))) 8 p ((S 8 p) + (1 : Int32)))) rfl dX2_payFor_95 (fun H locs hP hD hS => ?_)
        refine lv_aload_n hx hb dX2_payFor_96 rfl (lv_at hl 1 rfl) ?_
        refine va_get (ci := 2) (v := .ref (a 4)) (C := RX2) (T := TX2) (N := 17) hx hb hts hi2 hown hK hP 0 rfl rfl 4 (by decide) lk24 (fun _ h9 => h9) rfl dX2_payFor_97 ?_
        refine lv_iload_n hx hb dX2_payFor_100 rfl (lv_at hl 3 rfl) ?_
        refine lv_iload_n hx hb dX2_payFor_101 rfl (lv_at hl 2 rfl) ?_
        have hPc := P_sub (ws' := []) hP [] rfl
        refine xr_S (As := [.int (nI p), .int (nI r)]) (rest := [.ref (a 4)]) ⟨hx, hb, hml, hown, hts⟩ (c_X2_cell l K p r) (va_cwS 2 hts gX2_payFor_X2_cell rfl rfl rfl (by decide +kernel) ⟨Nat.le_of_ble_eq_true rfl, Nat.le_of_ble_eq_true rfl⟩) hK hPc rfl hl.1 rfl (Nat.le_of_ble_eq_true rfl) (Nat.le_of_ble_eq_true rfl) (Nat.le_of_ble_eq_true rfl) dX2_payFor_102 ?_
        refine lv_dup2_11 hx hb dX2_payFor_105 rfl rfl ?_
        refine xi_ld hx hb hK hP 5 (f := S 4) rfl (r * 10 + p) rfl (by omega) (by decide) dX2_payFor_106 ?_
        refine lv_iconst (v := (1 : Int32)) hx hb dX2_payFor_107 (by decide) ?_
        refine lv_iadd hx hb dX2_payFor_108 ?_
        refine xi_st hx hb hK hP hD hS 5 (f := S 4) rfl (r * 10 + p) rfl (by omega) (by decide) (hw K h a (hset (hset (hset S 5 p ((S 5 p) + ((S 9 1) + ((S 0 r) * (S 9 2))))) 8 p ((S 8 p) + (1 : Int32))) 4 (r * 10 + p) ((S 4 (r * 10 + p)) + (1 : Int32)))) rfl dX2_payFor_109 (fun H locs hP hD hS => ?_)
        refine lv_iload_n hx hb dX2_payFor_110 rfl (lv_at hl 0 rfl) ?_
        have eS0 : (hset (hset (hset S 5 p ((S 5 p) + ((S 9 1) + ((S 0 r) * (S 9 2))))) 8 p ((S 8 p) + (1 : Int32))) 4 (r * 10 + p) ((S 4 (r * 10 + p)) + (1 : Int32))) = hPay S r p := by (simp only [hPay, pPay, c_28, c_54, c_64]; simp; done)
        rw [eS0] at hP hD
        exact hend _ _ _ _ _ _ _ () hP hD hS (Nat.le_of_ble_eq_true rfl) (Nat.le_of_ble_eq_true rfl) (by (simp [pPay, c_28, c_54, c_64]; done)) dX2_payFor_111
      · skip
        refine lv_iload_n hx hb dX2_payFor_67 rfl (lv_at hl 0 rfl) ?_
        refine lv_aload_n hx hb dX2_payFor_68 rfl (lv_at hl 1 rfl) ?_
        refine va_get (ci := 2) (v := .ref (a 9)) (C := RX2) (T := TX2) (N := 17) hx hb hts hi2 hown hK hP 0 rfl rfl 9 (by decide) lk39 (fun _ h9 => h9) rfl dX2_payFor_69 ?_
        refine lv_iconst (v := (4 : Int32)) hx hb dX2_payFor_72 (by decide) ?_
        refine xi_ld hx hb hK hP 10 (f := S 9) rfl 4 rfl (by omega) (by decide) dX2_payFor_73 ?_
        refine lv_iadd hx hb dX2_payFor_74 ?_
        refine lv_istore_n (lv' := [(3, .int (((S 9 1) + ((S 0 r) * (S 9 2))) + (S 9 4))), (0, .ref h), (1, .int (nI r)), (2, .int (nI p))]) hx hb dX2_payFor_75 rfl hl (by decide) rfl (fun ls hl => ?_)
        refine lv_aload_n hx hb dX2_payFor_76 rfl (lv_at hl 1 rfl) ?_
        refine va_get (ci := 2) (v := .ref (a 5)) (C := RX2) (T := TX2) (N := 17) hx hb hts hi2 hown hK hP 0 rfl rfl 5 (by decide) lk27 (fun _ h9 => h9) rfl dX2_payFor_77 ?_
        refine lv_iload_n hx hb dX2_payFor_80 rfl (lv_at hl 3 rfl) ?_
        refine lv_dup2_11 hx hb dX2_payFor_81 rfl rfl ?_
        refine xi_ld hx hb hK hP 6 (f := S 5) rfl p rfl (by omega) (by decide) dX2_payFor_82 ?_
        refine lv_iload_n hx hb dX2_payFor_83 rfl (lv_at hl 0 rfl) ?_
        refine lv_iadd hx hb dX2_payFor_84 ?_
        refine xi_st hx hb hK hP hD hS 6 (f := S 5) rfl p rfl (by omega) (by decide) (hw K h a (hset S 5 p ((S 5 p) + (((S 9 1) + ((S 0 r) * (S 9 2))) + (S 9 4))))) rfl dX2_payFor_85 (fun H locs hP hD hS => ?_)
        refine lv_aload_n hx hb dX2_payFor_86 rfl (lv_at hl 1 rfl) ?_
        refine va_get (ci := 2) (v := .ref (a 8)) (C := RX2) (T := TX2) (N := 17) hx hb hts hi2 hown hK hP 0 rfl rfl 8 (by decide) lk36 (fun _ h9 => h9) rfl dX2_payFor_87 ?_
        refine lv_iload_n hx hb dX2_payFor_90 rfl (lv_at hl 3 rfl) ?_
        refine lv_dup2_11 hx hb dX2_payFor_91 rfl rfl ?_
        refine xi_ld hx hb hK hP 9 (f := S 8) rfl p rfl (by omega) (by decide) dX2_payFor_92 ?_
        refine lv_iconst (v := (1 : Int32)) hx hb dX2_payFor_93 (by decide) ?_
        refine lv_iadd hx hb dX2_payFor_94 ?_
        refine xi_st hx hb hK hP hD hS 9 (f := S 8) rfl p rfl (by omega) (by decide) (hw K h a (hset (hset S 5 p ((S 5 p) + (((S 9 1) + ((S 0 r) * (S 9 2))) + (S 9 4)))) 8 p ((S 8 p) + (1 : Int32)))) rfl dX2_payFor_95 (fun H locs hP hD hS => ?_)
        refine lv_aload_n hx hb dX2_payFor_96 rfl (lv_at hl 1 rfl) ?_
        refine va_get (ci := 2) (v := .ref (a 4)) (C := RX2) (T := TX2) (N := 17) hx hb hts hi2 hown hK hP 0 rfl rfl 4 (by decide) lk24 (fun _ h9 => h9) rfl dX2_payFor_97 ?_
        refine lv_iload_n hx hb dX2_payFor_100 rfl (lv_at hl 3 rfl) ?_
        refine lv_iload_n hx hb dX2_payFor_101 rfl (lv_at hl 2 rfl) ?_
        have hPc := P_sub (ws' := []) hP [] rfl
        refine xr_S (As := [.int (nI p), .int (nI r)]) (rest := [.ref (a 4)]) ⟨hx, hb, hml, hown, hts⟩ (c_X2_cell l K p r) (va_cwS 2 hts gX2_payFor_X2_cell rfl rfl rfl (by decide +kernel) ⟨Nat.le_of_ble_eq_true rfl, Nat.le_of_ble_eq_true rfl⟩) hK hPc rfl hl.1 rfl (Nat.le_of_ble_eq_true rfl) (Nat.le_of_ble_eq_true rfl) (Nat.le_of_ble_eq_true rfl) dX2_payFor_102 ?_
        refine lv_dup2_11 hx hb dX2_payFor_105 rfl rfl ?_
        refine xi_ld hx hb hK hP 5 (f := S 4) rfl (r * 10 + p) rfl (by omega) (by decide) dX2_payFor_106 ?_
        refine lv_iconst (v := (1 : Int32)) hx hb dX2_payFor_107 (by decide) ?_
        refine lv_iadd hx hb dX2_payFor_108 ?_
        refine xi_st hx hb hK hP hD hS 5 (f := S 4) rfl (r * 10 + p) rfl (by omega) (by decide) (hw K h a (hset (hset (hset S 5 p ((S 5 p) + (((S 9 1) + ((S 0 r) * (S 9 2))) + (S 9 4)))) 8 p ((S 8 p) + (1 : Int32))) 4 (r * 10 + p) ((S 4 (r * 10 + p)) + (1 : Int32)))) rfl dX2_payFor_109 (fun H locs hP hD hS => ?_)
        refine lv_iload_n hx hb dX2_payFor_110 rfl (lv_at hl 0 rfl) ?_
        have eS0 : (hset (hset (hset S 5 p ((S 5 p) + (((S 9 1) + ((S 0 r) * (S 9 2))) + (S 9 4)))) 8 p ((S 8 p) + (1 : Int32))) 4 (r * 10 + p) ((S 4 (r * 10 + p)) + (1 : Int32))) = hPay S r p := by (simp only [hPay, pPay, c_28, c_54, c_64]; simp; done)
        rw [eS0] at hP hD
        exact hend _ _ _ _ _ _ _ () hP hD hS (Nat.le_of_ble_eq_true rfl) (Nat.le_of_ble_eq_true rfl) (by (simp [pPay, c_28, c_54, c_64]; done)) dX2_payFor_111
  · skip
    refine lv_iload_n hx hb dX2_payFor_31 rfl (lv_at hl 0 rfl) ?_
    refine lv_aload_n hx hb dX2_payFor_32 rfl (lv_at hl 1 rfl) ?_
    refine va_get (ci := 2) (v := .ref (a 9)) (C := RX2) (T := TX2) (N := 17) hx hb hts hi2 hown hK hP 0 rfl rfl 9 (by decide) lk39 (fun _ h9 => h9) rfl dX2_payFor_33 ?_
    refine lv_iconst (v := (3 : Int32)) hx hb dX2_payFor_36 (by decide) ?_
    refine xi_ld hx hb hK hP 10 (f := S 9) rfl 3 rfl (by omega) (by decide) dX2_payFor_37 ?_
    refine lv_iadd hx hb dX2_payFor_38 ?_
    refine lv_istore_n (lv' := [(3, .int (((S 9 1) + ((S 0 r) * (S 9 2))) + (S 9 3))), (0, .ref h), (1, .int (nI r)), (2, .int (nI p))]) hx hb dX2_payFor_39 rfl hl (by decide) rfl (fun ls hl => ?_)
    refine lv_aload_n hx hb dX2_payFor_40 rfl (lv_at hl 1 rfl) ?_
    refine lv_dup hx hb dX2_payFor_41 rfl ?_
    refine va_get (ci := 2) (v := .int (S 15 0)) (C := RX2) (T := TX2) (N := 17) hx hb hts hi2 hown hK hP 0 rfl rfl 15 (by decide) lk68 (fun _ h9 => h9) rfl dX2_payFor_42 ?_
    refine lv_iconst (v := (1 : Int32)) hx hb dX2_payFor_45 (by decide) ?_
    refine lv_iadd hx hb dX2_payFor_46 ?_
    refine va_put (ci := 2) (v := .int ((S 15 0) + (1 : Int32))) (ty := .int) (C := RX2) (T := TX2) (N := 17) hx hb hts hi2 tyX2 tyX2_ok nmX2 hown hK hP hD hS 0 rfl rfl 15 (by decide) lk68 (fun _ h9 => h9) rfl (by decide +kernel) rfl rfl (Nat.le_of_ble_eq_true rfl) dX2_payFor_47 (fun H locs hP hD hS => ?_)
    have hP : va_P K.1 vwCl (hw K h a (hput S 15 ((S 15 0) + (1 : Int32)))) H := hP
    have hD : va_D A (hw K h a (hput S 15 ((S 15 0) + (1 : Int32)))) := hD
    refine lv_aload_n hx hb dX2_payFor_50 rfl (lv_at hl 1 rfl) ?_
    refine va_get (ci := 2) (v := .int (S 16 0)) (C := RX2) (T := TX2) (N := 17) hx hb hts hi2 hown hK hP 0 rfl rfl 16 (by decide) lk71 (fun _ h9 => h9) rfl dX2_payFor_51 ?_
    refine lv_if_eq (tgt := 76) hx hb dX2_payFor_54 (by decide) (fun c_54 => ?_) (fun c_54 => ?_)
    · skip
      refine lv_aload_n hx hb dX2_payFor_76 rfl (lv_at hl 1 rfl) ?_
      refine va_get (ci := 2) (v := .ref (a 5)) (C := RX2) (T := TX2) (N := 17) hx hb hts hi2 hown hK hP 0 rfl rfl 5 (by decide) lk27 (fun _ h9 => h9) rfl dX2_payFor_77 ?_
      refine lv_iload_n hx hb dX2_payFor_80 rfl (lv_at hl 3 rfl) ?_
      refine lv_dup2_11 hx hb dX2_payFor_81 rfl rfl ?_
      refine xi_ld hx hb hK hP 6 (f := S 5) rfl p rfl (by omega) (by decide) dX2_payFor_82 ?_
      refine lv_iload_n hx hb dX2_payFor_83 rfl (lv_at hl 0 rfl) ?_
      refine lv_iadd hx hb dX2_payFor_84 ?_
      refine xi_st hx hb hK hP hD hS 6 (f := S 5) rfl p rfl (by omega) (by decide) (hw K h a (hset (hput S 15 ((S 15 0) + (1 : Int32))) 5 p ((S 5 p) + (((S 9 1) + ((S 0 r) * (S 9 2))) + (S 9 3))))) rfl dX2_payFor_85 (fun H locs hP hD hS => ?_)
      refine lv_aload_n hx hb dX2_payFor_86 rfl (lv_at hl 1 rfl) ?_
      refine va_get (ci := 2) (v := .ref (a 8)) (C := RX2) (T := TX2) (N := 17) hx hb hts hi2 hown hK hP 0 rfl rfl 8 (by decide) lk36 (fun _ h9 => h9) rfl dX2_payFor_87 ?_
      refine lv_iload_n hx hb dX2_payFor_90 rfl (lv_at hl 3 rfl) ?_
      refine lv_dup2_11 hx hb dX2_payFor_91 rfl rfl ?_
      refine xi_ld hx hb hK hP 9 (f := S 8) rfl p rfl (by omega) (by decide) dX2_payFor_92 ?_
      refine lv_iconst (v := (1 : Int32)) hx hb dX2_payFor_93 (by decide) ?_
      refine lv_iadd hx hb dX2_payFor_94 ?_
      refine xi_st hx hb hK hP hD hS 9 (f := S 8) rfl p rfl (by omega) (by decide) (hw K h a (hset (hset (hput S 15 ((S 15 0) + (1 : Int32))) 5 p ((S 5 p) + (((S 9 1) + ((S 0 r) * (S 9 2))) + (S 9 3)))) 8 p ((S 8 p) + (1 : Int32)))) rfl dX2_payFor_95 (fun H locs hP hD hS => ?_)
      refine lv_aload_n hx hb dX2_payFor_96 rfl (lv_at hl 1 rfl) ?_
      refine va_get (ci := 2) (v := .ref (a 4)) (C := RX2) (T := TX2) (N := 17) hx hb hts hi2 hown hK hP 0 rfl rfl 4 (by decide) lk24 (fun _ h9 => h9) rfl dX2_payFor_97 ?_
      refine lv_iload_n hx hb dX2_payFor_100 rfl (lv_at hl 3 rfl) ?_
      refine lv_iload_n hx hb dX2_payFor_101 rfl (lv_at hl 2 rfl) ?_
      have hPc := P_sub (ws' := []) hP [] rfl
      refine xr_S (As := [.int (nI p), .int (nI r)]) (rest := [.ref (a 4)]) ⟨hx, hb, hml, hown, hts⟩ (c_X2_cell l K p r) (va_cwS 2 hts gX2_payFor_X2_cell rfl rfl rfl (by decide +kernel) ⟨Nat.le_of_ble_eq_true rfl, Nat.le_of_ble_eq_true rfl⟩) hK hPc rfl hl.1 rfl (Nat.le_of_ble_eq_true rfl) (Nat.le_of_ble_eq_true rfl) (Nat.le_of_ble_eq_true rfl) dX2_payFor_102 ?_
      refine lv_dup2_11 hx hb dX2_payFor_105 rfl rfl ?_
      refine xi_ld hx hb hK hP 5 (f := S 4) rfl (r * 10 + p) rfl (by omega) (by decide) dX2_payFor_106 ?_
      refine lv_iconst (v := (1 : Int32)) hx hb dX2_payFor_107 (by decide) ?_
      refine lv_iadd hx hb dX2_payFor_108 ?_
      refine xi_st hx hb hK hP hD hS 5 (f := S 4) rfl (r * 10 + p) rfl (by omega) (by decide) (hw K h a (hset (hset (hset (hput S 15 ((S 15 0) + (1 : Int32))) 5 p ((S 5 p) + (((S 9 1) + ((S 0 r) * (S 9 2))) + (S 9 3)))) 8 p ((S 8 p) + (1 : Int32))) 4 (r * 10 + p) ((S 4 (r * 10 + p)) + (1 : Int32)))) rfl dX2_payFor_109 (fun H locs hP hD hS => ?_)
      refine lv_iload_n hx hb dX2_payFor_110 rfl (lv_at hl 0 rfl) ?_
      have eS0 : (hset (hset (hset (hput S 15 ((S 15 0) + (1 : Int32))) 5 p ((S 5 p) + (((S 9 1) + ((S 0 r) * (S 9 2))) + (S 9 3)))) 8 p ((S 8 p) + (1 : Int32))) 4 (r * 10 + p) ((S 4 (r * 10 + p)) + (1 : Int32))) = hPay S r p := by (simp only [hPay, pPay, c_28, c_54]; simp; done)
      rw [eS0] at hP hD
      exact hend _ _ _ _ _ _ _ () hP hD hS (Nat.le_of_ble_eq_true rfl) (Nat.le_of_ble_eq_true rfl) (by (simp [pPay, c_28, c_54]; done)) dX2_payFor_111
    · skip
      refine lv_aload_n hx hb dX2_payFor_57 rfl (lv_at hl 1 rfl) ?_
      refine va_get (ci := 2) (v := .ref (a 2)) (C := RX2) (T := TX2) (N := 17) hx hb hts hi2 hown hK hP 0 rfl rfl 2 (by decide) lk18 (fun _ h9 => h9) rfl dX2_payFor_58 ?_
      refine lv_iload_n hx hb dX2_payFor_61 rfl (lv_at hl 2 rfl) ?_
      refine xi_ld hx hb hK hP 3 (f := S 2) rfl r rfl (by omega) (by decide) dX2_payFor_62 ?_
      refine lv_iload_n hx hb dX2_payFor_63 rfl (lv_at hl 3 rfl) ?_
      refine lv_icmp_eq (tgt := 76) hx hb dX2_payFor_64 (by decide) (fun c_64 => ?_) (fun c_64 => ?_)
      · skip
        refine lv_aload_n hx hb dX2_payFor_76 rfl (lv_at hl 1 rfl) ?_
        refine va_get (ci := 2) (v := .ref (a 5)) (C := RX2) (T := TX2) (N := 17) hx hb hts hi2 hown hK hP 0 rfl rfl 5 (by decide) lk27 (fun _ h9 => h9) rfl dX2_payFor_77 ?_
        refine lv_iload_n hx hb dX2_payFor_80 rfl (lv_at hl 3 rfl) ?_
        refine lv_dup2_11 hx hb dX2_payFor_81 rfl rfl ?_
        refine xi_ld hx hb hK hP 6 (f := S 5) rfl p rfl (by omega) (by decide) dX2_payFor_82 ?_
        refine lv_iload_n hx hb dX2_payFor_83 rfl (lv_at hl 0 rfl) ?_
        refine lv_iadd hx hb dX2_payFor_84 ?_
        refine xi_st hx hb hK hP hD hS 6 (f := S 5) rfl p rfl (by omega) (by decide) (hw K h a (hset (hput S 15 ((S 15 0) + (1 : Int32))) 5 p ((S 5 p) + (((S 9 1) + ((S 0 r) * (S 9 2))) + (S 9 3))))) rfl dX2_payFor_85 (fun H locs hP hD hS => ?_)
        refine lv_aload_n hx hb dX2_payFor_86 rfl (lv_at hl 1 rfl) ?_
        refine va_get (ci := 2) (v := .ref (a 8)) (C := RX2) (T := TX2) (N := 17) hx hb hts hi2 hown hK hP 0 rfl rfl 8 (by decide) lk36 (fun _ h9 => h9) rfl dX2_payFor_87 ?_
        refine lv_iload_n hx hb dX2_payFor_90 rfl (lv_at hl 3 rfl) ?_
        refine lv_dup2_11 hx hb dX2_payFor_91 rfl rfl ?_
        refine xi_ld hx hb hK hP 9 (f := S 8) rfl p rfl (by omega) (by decide) dX2_payFor_92 ?_
        refine lv_iconst (v := (1 : Int32)) hx hb dX2_payFor_93 (by decide) ?_
        refine lv_iadd hx hb dX2_payFor_94 ?_
        refine xi_st hx hb hK hP hD hS 9 (f := S 8) rfl p rfl (by omega) (by decide) (hw K h a (hset (hset (hput S 15 ((S 15 0) + (1 : Int32))) 5 p ((S 5 p) + (((S 9 1) + ((S 0 r) * (S 9 2))) + (S 9 3)))) 8 p ((S 8 p) + (1 : Int32)))) rfl dX2_payFor_95 (fun H locs hP hD hS => ?_)
        refine lv_aload_n hx hb dX2_payFor_96 rfl (lv_at hl 1 rfl) ?_
        refine va_get (ci := 2) (v := .ref (a 4)) (C := RX2) (T := TX2) (N := 17) hx hb hts hi2 hown hK hP 0 rfl rfl 4 (by decide) lk24 (fun _ h9 => h9) rfl dX2_payFor_97 ?_
        refine lv_iload_n hx hb dX2_payFor_100 rfl (lv_at hl 3 rfl) ?_
        refine lv_iload_n hx hb dX2_payFor_101 rfl (lv_at hl 2 rfl) ?_
        have hPc := P_sub (ws' := []) hP [] rfl
        refine xr_S (As := [.int (nI p), .int (nI r)]) (rest := [.ref (a 4)]) ⟨hx, hb, hml, hown, hts⟩ (c_X2_cell l K p r) (va_cwS 2 hts gX2_payFor_X2_cell rfl rfl rfl (by decide +kernel) ⟨Nat.le_of_ble_eq_true rfl, Nat.le_of_ble_eq_true rfl⟩) hK hPc rfl hl.1 rfl (Nat.le_of_ble_eq_true rfl) (Nat.le_of_ble_eq_true rfl) (Nat.le_of_ble_eq_true rfl) dX2_payFor_102 ?_
        refine lv_dup2_11 hx hb dX2_payFor_105 rfl rfl ?_
        refine xi_ld hx hb hK hP 5 (f := S 4) rfl (r * 10 + p) rfl (by omega) (by decide) dX2_payFor_106 ?_
        refine lv_iconst (v := (1 : Int32)) hx hb dX2_payFor_107 (by decide) ?_
        refine lv_iadd hx hb dX2_payFor_108 ?_
        refine xi_st hx hb hK hP hD hS 5 (f := S 4) rfl (r * 10 + p) rfl (by omega) (by decide) (hw K h a (hset (hset (hset (hput S 15 ((S 15 0) + (1 : Int32))) 5 p ((S 5 p) + (((S 9 1) + ((S 0 r) * (S 9 2))) + (S 9 3)))) 8 p ((S 8 p) + (1 : Int32))) 4 (r * 10 + p) ((S 4 (r * 10 + p)) + (1 : Int32)))) rfl dX2_payFor_109 (fun H locs hP hD hS => ?_)
        refine lv_iload_n hx hb dX2_payFor_110 rfl (lv_at hl 0 rfl) ?_
        have eS0 : (hset (hset (hset (hput S 15 ((S 15 0) + (1 : Int32))) 5 p ((S 5 p) + (((S 9 1) + ((S 0 r) * (S 9 2))) + (S 9 3)))) 8 p ((S 8 p) + (1 : Int32))) 4 (r * 10 + p) ((S 4 (r * 10 + p)) + (1 : Int32))) = hPay S r p := by (simp only [hPay, pPay, c_28, c_54, c_64]; simp; done)
        rw [eS0] at hP hD
        exact hend _ _ _ _ _ _ _ () hP hD hS (Nat.le_of_ble_eq_true rfl) (Nat.le_of_ble_eq_true rfl) (by (simp [pPay, c_28, c_54, c_64]; done)) dX2_payFor_111
      · skip
        refine lv_iload_n hx hb dX2_payFor_67 rfl (lv_at hl 0 rfl) ?_
        refine lv_aload_n hx hb dX2_payFor_68 rfl (lv_at hl 1 rfl) ?_
        refine va_get (ci := 2) (v := .ref (a 9)) (C := RX2) (T := TX2) (N := 17) hx hb hts hi2 hown hK hP 0 rfl rfl 9 (by decide) lk39 (fun _ h9 => h9) rfl dX2_payFor_69 ?_
        refine lv_iconst (v := (4 : Int32)) hx hb dX2_payFor_72 (by decide) ?_
        refine xi_ld hx hb hK hP 10 (f := S 9) rfl 4 rfl (by omega) (by decide) dX2_payFor_73 ?_
        refine lv_iadd hx hb dX2_payFor_74 ?_
        refine lv_istore_n (lv' := [(3, .int ((((S 9 1) + ((S 0 r) * (S 9 2))) + (S 9 3)) + (S 9 4))), (0, .ref h), (1, .int (nI r)), (2, .int (nI p))]) hx hb dX2_payFor_75 rfl hl (by decide) rfl (fun ls hl => ?_)
        refine lv_aload_n hx hb dX2_payFor_76 rfl (lv_at hl 1 rfl) ?_
        refine va_get (ci := 2) (v := .ref (a 5)) (C := RX2) (T := TX2) (N := 17) hx hb hts hi2 hown hK hP 0 rfl rfl 5 (by decide) lk27 (fun _ h9 => h9) rfl dX2_payFor_77 ?_
        refine lv_iload_n hx hb dX2_payFor_80 rfl (lv_at hl 3 rfl) ?_
        refine lv_dup2_11 hx hb dX2_payFor_81 rfl rfl ?_
        refine xi_ld hx hb hK hP 6 (f := S 5) rfl p rfl (by omega) (by decide) dX2_payFor_82 ?_
        refine lv_iload_n hx hb dX2_payFor_83 rfl (lv_at hl 0 rfl) ?_
        refine lv_iadd hx hb dX2_payFor_84 ?_
        refine xi_st hx hb hK hP hD hS 6 (f := S 5) rfl p rfl (by omega) (by decide) (hw K h a (hset (hput S 15 ((S 15 0) + (1 : Int32))) 5 p ((S 5 p) + ((((S 9 1) + ((S 0 r) * (S 9 2))) + (S 9 3)) + (S 9 4))))) rfl dX2_payFor_85 (fun H locs hP hD hS => ?_)
        refine lv_aload_n hx hb dX2_payFor_86 rfl (lv_at hl 1 rfl) ?_
        refine va_get (ci := 2) (v := .ref (a 8)) (C := RX2) (T := TX2) (N := 17) hx hb hts hi2 hown hK hP 0 rfl rfl 8 (by decide) lk36 (fun _ h9 => h9) rfl dX2_payFor_87 ?_
        refine lv_iload_n hx hb dX2_payFor_90 rfl (lv_at hl 3 rfl) ?_
        refine lv_dup2_11 hx hb dX2_payFor_91 rfl rfl ?_
        refine xi_ld hx hb hK hP 9 (f := S 8) rfl p rfl (by omega) (by decide) dX2_payFor_92 ?_
        refine lv_iconst (v := (1 : Int32)) hx hb dX2_payFor_93 (by decide) ?_
        refine lv_iadd hx hb dX2_payFor_94 ?_
        refine xi_st hx hb hK hP hD hS 9 (f := S 8) rfl p rfl (by omega) (by decide) (hw K h a (hset (hset (hput S 15 ((S 15 0) + (1 : Int32))) 5 p ((S 5 p) + ((((S 9 1) + ((S 0 r) * (S 9 2))) + (S 9 3)) + (S 9 4)))) 8 p ((S 8 p) + (1 : Int32)))) rfl dX2_payFor_95 (fun H locs hP hD hS => ?_)
        refine lv_aload_n hx hb dX2_payFor_96 rfl (lv_at hl 1 rfl) ?_
        refine va_get (ci := 2) (v := .ref (a 4)) (C := RX2) (T := TX2) (N := 17) hx hb hts hi2 hown hK hP 0 rfl rfl 4 (by decide) lk24 (fun _ h9 => h9) rfl dX2_payFor_97 ?_
        refine lv_iload_n hx hb dX2_payFor_100 rfl (lv_at hl 3 rfl) ?_
        refine lv_iload_n hx hb dX2_payFor_101 rfl (lv_at hl 2 rfl) ?_
        have hPc := P_sub (ws' := []) hP [] rfl
        refine xr_S (As := [.int (nI p), .int (nI r)]) (rest := [.ref (a 4)]) ⟨hx, hb, hml, hown, hts⟩ (c_X2_cell l K p r) (va_cwS 2 hts gX2_payFor_X2_cell rfl rfl rfl (by decide +kernel) ⟨Nat.le_of_ble_eq_true rfl, Nat.le_of_ble_eq_true rfl⟩) hK hPc rfl hl.1 rfl (Nat.le_of_ble_eq_true rfl) (Nat.le_of_ble_eq_true rfl) (Nat.le_of_ble_eq_true rfl) dX2_payFor_102 ?_
        refine lv_dup2_11 hx hb dX2_payFor_105 rfl rfl ?_
        refine xi_ld hx hb hK hP 5 (f := S 4) rfl (r * 10 + p) rfl (by omega) (by decide) dX2_payFor_106 ?_
        refine lv_iconst (v := (1 : Int32)) hx hb dX2_payFor_107 (by decide) ?_
        refine lv_iadd hx hb dX2_payFor_108 ?_
        refine xi_st hx hb hK hP hD hS 5 (f := S 4) rfl (r * 10 + p) rfl (by omega) (by decide) (hw K h a (hset (hset (hset (hput S 15 ((S 15 0) + (1 : Int32))) 5 p ((S 5 p) + ((((S 9 1) + ((S 0 r) * (S 9 2))) + (S 9 3)) + (S 9 4)))) 8 p ((S 8 p) + (1 : Int32))) 4 (r * 10 + p) ((S 4 (r * 10 + p)) + (1 : Int32)))) rfl dX2_payFor_109 (fun H locs hP hD hS => ?_)
        refine lv_iload_n hx hb dX2_payFor_110 rfl (lv_at hl 0 rfl) ?_
        have eS0 : (hset (hset (hset (hput S 15 ((S 15 0) + (1 : Int32))) 5 p ((S 5 p) + ((((S 9 1) + ((S 0 r) * (S 9 2))) + (S 9 3)) + (S 9 4)))) 8 p ((S 8 p) + (1 : Int32))) 4 (r * 10 + p) ((S 4 (r * 10 + p)) + (1 : Int32))) = hPay S r p := by (simp only [hPay, pPay, c_28, c_54, c_64]; simp; done)
        rw [eS0] at hP hD
        exact hend _ _ _ _ _ _ _ () hP hD hS (Nat.le_of_ble_eq_true rfl) (Nat.le_of_ble_eq_true rfl) (by (simp [pPay, c_28, c_54, c_64]; done)) dX2_payFor_111

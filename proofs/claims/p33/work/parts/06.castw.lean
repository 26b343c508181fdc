/-! casting: its writing methods -/
theorem hrow_same (S : HV) (k : Nat) : hrow S k (S k) = S := by
  funext j
  by_cases h : j = k
  · subst h; rw [hrow_self]
  · rw [hrow_ne S _ h]
theorem hrow_hrow (S : HV) (k : Nat) (f g : Nat → Int32) : hrow (hrow S k f) k g = hrow S k g := by
  funext j
  by_cases h : j = k
  · subst h; rw [hrow_self, hrow_self]
  · rw [hrow_ne _ _ h, hrow_ne _ _ h, hrow_ne _ _ h]
theorem upd_upd (f : Nat → Int32) (k : Nat) (x y : Int32) : upd (upd f k x) k y = upd f k y := by
  funext j
  unfold upd
  split <;> rfl
theorem hset_upd (S : HV) (r k : Nat) (f : Nat → Int32) (x y : Int32) : hset (hrow S r (upd f k x)) r k y = hrow S r (upd f k y) := by
  unfold hset
  rw [hrow_hrow, hrow_self, upd_upd]
abbrev chI (C : HV) (P k q : Nat) (x : Int32) (t : Nat) : Prop := (x = -1 ∧ t = tkC C P k ∧ pkC C P k (tkC C P k) = pkF (fun p => decide (swC C p k (tkC C P k) = C 0 (tkC C P k))) q (P - q)) ∨ (x = nI (pkC C P k (tkC C P k)) ∧ t = tkC C P k ||| 2 ^ pkC C P k (tkC C P k) ∧ pkC C P k (tkC C P k) < P ∧ C 5 0 ≠ 0)
theorem ch_exit {C : HV} {P k q : Nat} {x : Int32} {t : Nat} (hq : q ≤ P) (hx : chI C P k q x t) (h : C 5 0 = 0 ∨ P ≤ q ∨ ¬ x = -1) : x = chC C P k ∧ t = tkC C P (k + 1) := by
  rcases hx with ⟨e1, e2, e3⟩ | ⟨e1, e2, e3, e4⟩
  · have hn : ¬ (C 5 0 ≠ 0 ∧ pkC C P k (tkC C P k) < P) := by
      rintro ⟨a, b⟩
      rcases h with h | h | h
      · exact a h
      · have hqP : q = P := by omega
        subst hqP
        rw [e3, Nat.sub_self, pkF] at b
        omega
      · exact h e1
    exact ⟨by rw [e1, chC, if_neg hn], by rw [e2, tkC, if_neg hn]⟩
  · exact ⟨by rw [e1, chC, if_pos ⟨e4, e3⟩], by rw [e2, tkC, if_pos ⟨e4, e3⟩]⟩
theorem nI_m1 {n : Nat} (h : n < 2 ^ 31) : nI n ≠ -1 := by
  intro e
  have h1 := nI_toInt h
  rw [e] at h1
  have h2 : ((-1 : Int32)).toInt = -1 := by decide
  omega
theorem ch_step {C : HV} {P k q : Nat} {x : Int32} {t : Nat} (hP : P ≤ 10) (hx : chI C P k q x t) (h1 : x = -1) (hq : q < P) (hs : ¬ swC C q k t = C 0 t) : chI C P k (q + 1) x t := by
  rcases hx with ⟨e1, e2, e3⟩ | ⟨e1, e2, e3, e4⟩
  · refine Or.inl ⟨e1, e2, ?_⟩
    rw [e3]
    rw [e2] at hs
    exact pkF_step hq (by simp [hs])
  · exact absurd (e1.symm.trans h1) (nI_m1 (by omega))
theorem ch_hit {C : HV} {P k q : Nat} {x : Int32} {t : Nat} (hP : P ≤ 10) (hx : chI C P k q x t) (h1 : x = -1) (hq : q < P) (hs : swC C q k t = C 0 t) (h5 : ¬ C 5 0 = 0) : chI C P k (q + 1) (nI q) (t ||| 2 ^ q) := by
  rcases hx with ⟨e1, e2, e3⟩ | ⟨e1, e2, e3, e4⟩
  · rw [e2] at hs
    have h9 : pkC C P k (tkC C P k) = q := by
      rw [e3]
      exact pkF_hit hq (by simp [hs])
    exact Or.inr ⟨by rw [h9], by rw [h9, e2], by omega, h5⟩
  · exact absurd (e1.symm.trans h1) (nI_m1 (by omega))

abbrev rm_X0_chooseLowest : Room := { frames := 2, cells := 0, slots := 0, locals := 46 }
set_option maxHeartbeats 4000000 in
set_option maxRecDepth 100000 in
theorem c_X0_chooseLowest (l : Launch) (K : KX) (c : Nat) (b : Nat → Nat) (C : HV) (R : Nat) (hR0 : C 3 0 = nI R) (hR0b : R ≤ 6) (P : Nat) (hP0 : C 4 0 = nI P) (hP0b : P ≤ 10) (sz : Nat) : Met l yX0_chooseLowest wsX0_chooseLowest rm_X0_chooseLowest (va_Pc [.ref c] (xPre K (cw K c b C) sz)) (va_Qv (fun _u : Unit => True) (fun _u t => xPost K (va_A (cw K c b C) sz) (cw K c b (hrow C 2 (chR C P R))) t) (va_A (cw K c b C) sz)) 0 0 (va_A (cw K c b C) sz) := by
  refine xw_startv (cc := cX0_chooseLowest) (maxL := 4) (by decide) rfl (Nat.le_of_ble_eq_true rfl) ?_
  intro p9 e9 s9 m9 below9 meth9 c9 H locs ls A av9 Q9 hx hb hlocks hml hname hts hown hK hP hD hS hA hsz hend hl
  have hown : s9.vm.findClass RX0 = some m9.cls := hown
  have hl : lv_has ls 4 [(0, .ref c)] := hl
  have hi0 : ∀ w ∈ u_ws RX0 TX0 6, w ∈ wsX0_chooseLowest := by decide +kernel
  have lk27 := hts (.fieldLink RX0 27 "StandIns$Casting" "roles" "I") (by decide +kernel)
  have lk18 := hts (.fieldLink RX0 18 "StandIns$Casting" "cast" "[I") (by decide +kernel)
  have lk54 := hts (.fieldLink RX0 54 "StandIns$Casting" "found" "Z") (by decide +kernel)
  have lk34 := hts (.fieldLink RX0 34 "StandIns$Casting" "players" "I") (by decide +kernel)
  have lk9 := hts (.fieldLink RX0 9 "StandIns$Casting" "best" "[I") (by decide +kernel)
  refine lv_iconst (v := (0 : Int32)) hx hb dX0_chooseLowest_0 (by decide) ?_
  refine lv_istore_n (lv' := [(1, .int (0 : Int32)), (0, .ref c)]) hx hb dX0_chooseLowest_1 rfl hl (by decide) rfl (fun ls hl => ?_)
  refine lv_iconst (v := (0 : Int32)) hx hb dX0_chooseLowest_2 (by decide) ?_
  refine lv_istore_n (lv' := [(2, .int (0 : Int32)), (1, .int (0 : Int32)), (0, .ref c)]) hx hb dX0_chooseLowest_3 rfl hl (by decide) rfl (fun ls hl => ?_)
  have lp4 : ∀ (n9 : Nat) (k : Nat) (H : Heap) (locs : List Loc) (ls : Array Slot), R - k < n9 → (k ≤ R) → va_P K.1 vwCl (cw K c b (hrow C 2 (chR C P k))) H → va_D A (cw K c b (hrow C 2 (chR C P k))) → va_S A s9.heap H locs → lv_has ls 4 [(0, .ref c), (1, .int (nI (tkC C P k))), (2, .int (nI k))] → W p9 l e9 rm_X0_chooseLowest s9 m9 av9 below9 meth9 c9 H locs 0 0 Q9 (F0 m9 4 ls []) := by
    intro n9
    induction n9 with
    | zero => intro k H locs ls hmu hk hP hD hS hl; exact absurd hmu (Nat.not_lt_zero _)
    | succ n9 ih4 =>
      intro k H locs ls hmu hk hP hD hS hl
      have htk := tkC_lt C hP0b k
      refine lv_iload_n hx hb dX0_chooseLowest_4 rfl (lv_at hl 2 rfl) ?_
      refine lv_aload_n hx hb dX0_chooseLowest_5 rfl (lv_at hl 0 rfl) ?_
      refine va_get (ci := 0) (v := .int (C 3 0)) (C := RX0) (T := TX0) (N := 6) hx hb hts hi0 hown hK hP 0 rfl rfl 3 (by decide) lk27 (fun _ h9 => h9) rfl dX0_chooseLowest_6 ?_
      refine xn_icmp_ge (tgt := 87) hx hb k R rfl hR0 (by omega) (by omega) dX0_chooseLowest_9 (by decide) (fun c_9 => ?_) (fun c_9 => ?_)
      · skip
        have eS0 : (hrow C 2 (chR C P k)) = hrow C 2 (chR C P R) := by rw [show k = R by omega]
        rw [eS0] at hP hD
        exact hend _ _ _ _ _ _ () hP hD hS (Nat.le_of_ble_eq_true rfl) (Nat.le_of_ble_eq_true rfl) trivial dX0_chooseLowest_87
      · skip
        refine lv_aload_n hx hb dX0_chooseLowest_12 rfl (lv_at hl 0 rfl) ?_
        refine va_get (ci := 0) (v := .ref (b 2)) (C := RX0) (T := TX0) (N := 6) hx hb hts hi0 hown hK hP 0 rfl rfl 2 (by decide) lk18 (fun _ h9 => h9) rfl dX0_chooseLowest_13 ?_
        refine lv_iload_n hx hb dX0_chooseLowest_16 rfl (lv_at hl 2 rfl) ?_
        refine lv_iconst (v := (-1 : Int32)) hx hb dX0_chooseLowest_17 (by decide) ?_
        refine xi_st hx hb hK hP hD hS 3 (f := (chR C P k)) rfl k rfl (by omega) (by decide) (cw K c b (hset (hrow C 2 (chR C P k)) 2 k (-1 : Int32))) rfl dX0_chooseLowest_18 (fun H locs hP hD hS => ?_)
        refine lv_iconst (v := (0 : Int32)) hx hb dX0_chooseLowest_19 (by decide) ?_
        refine lv_istore_n (lv' := [(3, .int (0 : Int32)), (0, .ref c), (1, .int (nI (tkC C P k))), (2, .int (nI k))]) hx hb dX0_chooseLowest_20 rfl hl (by decide) rfl (fun ls hl => ?_)
        have lp21 : ∀ (n9 : Nat) (q : Nat) (x : Int32) (t : Nat) (H : Heap) (locs : List Loc) (ls : Array Slot), P - q < n9 → (q ≤ P) → (t < 1024) → (chI C P k q x t) → va_P K.1 vwCl (cw K c b (hrow C 2 (upd (chR C P k) k x))) H → va_D A (cw K c b (hrow C 2 (upd (chR C P k) k x))) → va_S A s9.heap H locs → lv_has ls 4 [(0, .ref c), (1, .int (nI t)), (2, .int (nI k)), (3, .int (nI q))] → W p9 l e9 rm_X0_chooseLowest s9 m9 av9 below9 meth9 c9 H locs 0 0 Q9 (F0 m9 21 ls []) := by
          intro n9
          induction n9 with
          | zero => intro q x t H locs ls hmu hq ht hci hP hD hS hl; exact absurd hmu (Nat.not_lt_zero _)
          | succ n9 ih21 =>
            intro q x t H locs ls hmu hq ht hci hP hD hS hl
            refine lv_aload_n hx hb dX0_chooseLowest_21 rfl (lv_at hl 0 rfl) ?_
            refine va_get (ci := 0) (v := .int (C 5 0)) (C := RX0) (T := TX0) (N := 6) hx hb hts hi0 hown hK hP 0 rfl rfl 5 (by decide) lk54 (fun _ h9 => h9) rfl dX0_chooseLowest_22 ?_
            refine lv_if_eq (tgt := 81) hx hb dX0_chooseLowest_25 (by decide) (fun c_25 => ?_) (fun c_25 => ?_)
            · skip
              have hex := ch_exit hq hci (Or.inl c_25)
              refine lv_iinc (v := nI (k + 1)) (lv' := [(2, .int (nI (k + 1))), (0, .ref c), (1, .int (nI t)), (3, .int (nI q))]) hx hb dX0_chooseLowest_81 hl (k := 2) rfl (nI_1 _) (by decide) rfl (fun ls hl => ?_)
              refine lv_goto (tgt := 4) hx hb dX0_chooseLowest_84 (by decide) ?_
              have eS0 : (hrow C 2 (upd (chR C P k) k x)) = hrow C 2 (chR C P (k + 1)) := by rw [chR_s C P k hex.1]
              have hP : va_P K.1 vwCl (cw K c b (hrow C 2 (chR C P (k + 1)))) H := by rw [← eS0]; exact hP
              have hD : va_D A (cw K c b (hrow C 2 (chR C P (k + 1)))) := by rw [← eS0]; exact hD
              exact ih4 (k + 1) _ _ _ (by omega) (by first | omega | assumption | first | rfl | (simp [c_9, c_25]; done) | omega) hP hD hS (lv_cons (lv_at hl 1 rfl) (lv_cons (lv_is (lv_at hl 2 rfl) (show nI t = nI (tkC C P (k + 1)) by exact congrArg nI hex.2)) (lv_cons (lv_at hl 0 rfl) (lv_nil hl))))
            · skip
              refine lv_iload_n hx hb dX0_chooseLowest_28 rfl (lv_at hl 3 rfl) ?_
              refine lv_aload_n hx hb dX0_chooseLowest_29 rfl (lv_at hl 0 rfl) ?_
              refine va_get (ci := 0) (v := .int (C 4 0)) (C := RX0) (T := TX0) (N := 6) hx hb hts hi0 hown hK hP 0 rfl rfl 4 (by decide) lk34 (fun _ h9 => h9) rfl dX0_chooseLowest_30 ?_
              refine xn_icmp_ge (tgt := 81) hx hb q P rfl hP0 (by omega) (by omega) dX0_chooseLowest_33 (by decide) (fun c_33 => ?_) (fun c_33 => ?_)
              · skip
                have hex := ch_exit hq hci (Or.inr (Or.inl c_33))
                refine lv_iinc (v := nI (k + 1)) (lv' := [(2, .int (nI (k + 1))), (0, .ref c), (1, .int (nI t)), (3, .int (nI q))]) hx hb dX0_chooseLowest_81 hl (k := 2) rfl (nI_1 _) (by decide) rfl (fun ls hl => ?_)
                refine lv_goto (tgt := 4) hx hb dX0_chooseLowest_84 (by decide) ?_
                have eS0 : (hrow C 2 (upd (chR C P k) k x)) = hrow C 2 (chR C P (k + 1)) := by rw [chR_s C P k hex.1]
                have hP : va_P K.1 vwCl (cw K c b (hrow C 2 (chR C P (k + 1)))) H := by rw [← eS0]; exact hP
                have hD : va_D A (cw K c b (hrow C 2 (chR C P (k + 1)))) := by rw [← eS0]; exact hD
                exact ih4 (k + 1) _ _ _ (by omega) (by first | omega | assumption | first | rfl | (simp [c_9, c_25, c_33]; done) | omega) hP hD hS (lv_cons (lv_at hl 1 rfl) (lv_cons (lv_is (lv_at hl 2 rfl) (show nI t = nI (tkC C P (k + 1)) by exact congrArg nI hex.2)) (lv_cons (lv_at hl 0 rfl) (lv_nil hl))))
              · skip
                refine lv_aload_n hx hb dX0_chooseLowest_36 rfl (lv_at hl 0 rfl) ?_
                refine va_get (ci := 0) (v := .ref (b 2)) (C := RX0) (T := TX0) (N := 6) hx hb hts hi0 hown hK hP 0 rfl rfl 2 (by decide) lk18 (fun _ h9 => h9) rfl dX0_chooseLowest_37 ?_
                refine lv_iload_n hx hb dX0_chooseLowest_40 rfl (lv_at hl 2 rfl) ?_
                refine xi_ld hx hb hK hP 3 (f := (upd (chR C P k) k x)) rfl k rfl (by omega) (by decide) dX0_chooseLowest_41 ?_
                rw [show (upd (chR C P k) k x) k = x from pk_us]
                refine lv_iconst (v := (-1 : Int32)) hx hb dX0_chooseLowest_42 (by decide) ?_
                refine lv_icmp_ne (tgt := 81) hx hb dX0_chooseLowest_43 (by decide) (fun c_43 => ?_) (fun c_43 => ?_)
                · skip
                  have hex := ch_exit hq hci (Or.inr (Or.inr c_43))
                  refine lv_iinc (v := nI (k + 1)) (lv' := [(2, .int (nI (k + 1))), (0, .ref c), (1, .int (nI t)), (3, .int (nI q))]) hx hb dX0_chooseLowest_81 hl (k := 2) rfl (nI_1 _) (by decide) rfl (fun ls hl => ?_)
                  refine lv_goto (tgt := 4) hx hb dX0_chooseLowest_84 (by decide) ?_
                  have eS0 : (hrow C 2 (upd (chR C P k) k x)) = hrow C 2 (chR C P (k + 1)) := by rw [chR_s C P k hex.1]
                  have hP : va_P K.1 vwCl (cw K c b (hrow C 2 (chR C P (k + 1)))) H := by rw [← eS0]; exact hP
                  have hD : va_D A (cw K c b (hrow C 2 (chR C P (k + 1)))) := by rw [← eS0]; exact hD
                  exact ih4 (k + 1) _ _ _ (by omega) (by first | omega | assumption | first | rfl | (simp [c_9, c_25, c_33, c_43]; done) | omega) hP hD hS (lv_cons (lv_at hl 1 rfl) (lv_cons (lv_is (lv_at hl 2 rfl) (show nI t = nI (tkC C P (k + 1)) by exact congrArg nI hex.2)) (lv_cons (lv_at hl 0 rfl) (lv_nil hl))))
                · skip
                  refine lv_aload_n hx hb dX0_chooseLowest_46 rfl (lv_at hl 0 rfl) ?_
                  refine lv_iload_n hx hb dX0_chooseLowest_47 rfl (lv_at hl 3 rfl) ?_
                  refine lv_iload_n hx hb dX0_chooseLowest_48 rfl (lv_at hl 2 rfl) ?_
                  refine lv_iload_n hx hb dX0_chooseLowest_49 rfl (lv_at hl 1 rfl) ?_
                  have hPc : va_P K.1 vwCl (cw K c b (hrow C 2 (upd (chR C P k) k x))) H := hP
                  refine xr_V (As := [.int (nI q), .int (nI k), .int (nI t)]) (rest := []) ⟨hx, hb, hml, hown, hts⟩ (c_X0_sumWith l K c b (hrow C 2 (upd (chR C P k) k x)) q (by omega) k (by omega) t (by omega)) (cwV 3 hts gX0_chooseLowest_X0_sumWith rfl rfl rfl (by decide +kernel) ⟨Nat.le_of_ble_eq_true rfl, Nat.le_of_ble_eq_true rfl⟩) hK hPc 0 0 rfl rfl rfl rfl hl.1 rfl (Nat.le_of_ble_eq_true rfl) (Nat.le_of_ble_eq_true rfl) (Nat.le_of_ble_eq_true rfl) dX0_chooseLowest_50 ?_
                  rw [show swC (hrow C 2 (upd (chR C P k) k x)) q k t = swC C q k t from rfl]
                  refine lv_aload_n hx hb dX0_chooseLowest_53 rfl (lv_at hl 0 rfl) ?_
                  refine va_get (ci := 0) (v := .ref (b 0)) (C := RX0) (T := TX0) (N := 6) hx hb hts hi0 hown hK hP 0 rfl rfl 0 (by decide) lk9 (fun _ h9 => h9) rfl dX0_chooseLowest_54 ?_
                  refine lv_iload_n hx hb dX0_chooseLowest_57 rfl (lv_at hl 1 rfl) ?_
                  refine xi_ld hx hb hK hP 1 (f := C 0) rfl t rfl (by omega) (by decide) dX0_chooseLowest_58 ?_
                  refine lv_icmp_ne (tgt := 75) hx hb dX0_chooseLowest_59 (by decide) (fun c_59 => ?_) (fun c_59 => ?_)
                  · skip
                    refine lv_iinc (v := nI (q + 1)) (lv' := [(3, .int (nI (q + 1))), (0, .ref c), (1, .int (nI t)), (2, .int (nI k))]) hx hb dX0_chooseLowest_75 hl (k := 3) rfl (nI_1 _) (by decide) rfl (fun ls hl => ?_)
                    refine lv_goto (tgt := 21) hx hb dX0_chooseLowest_78 (by decide) ?_
                    exact ih21 (q + 1) x t _ _ _ (by omega) (by first | omega | assumption | first | rfl | (simp [c_9, c_25, c_33, c_43, c_59, c_59n9]; done) | omega) (by exact ht) (by exact ch_step hP0b hci c_43 c_33 c_59) hP hD hS (lv_cons (lv_at hl 1 rfl) (lv_cons (lv_at hl 2 rfl) (lv_cons (lv_at hl 3 rfl) (lv_cons (lv_at hl 0 rfl) (lv_nil hl)))))
                  · skip
                    refine lv_aload_n hx hb dX0_chooseLowest_62 rfl (lv_at hl 0 rfl) ?_
                    refine va_get (ci := 0) (v := .ref (b 2)) (C := RX0) (T := TX0) (N := 6) hx hb hts hi0 hown hK hP 0 rfl rfl 2 (by decide) lk18 (fun _ h9 => h9) rfl dX0_chooseLowest_63 ?_
                    refine lv_iload_n hx hb dX0_chooseLowest_66 rfl (lv_at hl 2 rfl) ?_
                    refine lv_iload_n hx hb dX0_chooseLowest_67 rfl (lv_at hl 3 rfl) ?_
                    refine xi_st hx hb hK hP hD hS 3 (f := (upd (chR C P k) k x)) rfl k rfl (by omega) (by decide) (cw K c b (hset (hrow C 2 (upd (chR C P k) k x)) 2 k (nI q))) rfl dX0_chooseLowest_68 (fun H locs hP hD hS => ?_)
                    refine lv_iload_n hx hb dX0_chooseLowest_69 rfl (lv_at hl 1 rfl) ?_
                    refine lv_iconst (v := (1 : Int32)) hx hb dX0_chooseLowest_70 (by decide) ?_
                    refine lv_iload_n hx hb dX0_chooseLowest_71 rfl (lv_at hl 3 rfl) ?_
                    refine lv_ishl hx hb dX0_chooseLowest_72 ?_
                    refine lv_ior hx hb dX0_chooseLowest_73 ?_
                    refine lv_istore_n (lv' := [(1, .int ((nI t) ||| ((1 : Int32) <<< ((nI q) &&& 31)))), (0, .ref c), (2, .int (nI k)), (3, .int (nI q))]) hx hb dX0_chooseLowest_74 rfl hl (by decide) rfl (fun ls hl => ?_)
                    refine lv_iinc (v := nI (q + 1)) (lv' := [(3, .int (nI (q + 1))), (1, .int ((nI t) ||| ((1 : Int32) <<< ((nI q) &&& 31)))), (0, .ref c), (2, .int (nI k))]) hx hb dX0_chooseLowest_75 hl (k := 3) rfl (nI_1 _) (by decide) rfl (fun ls hl => ?_)
                    refine lv_goto (tgt := 21) hx hb dX0_chooseLowest_78 (by decide) ?_
                    have eS0 : (hset (hrow C 2 (upd (chR C P k) k x)) 2 k (nI q)) = hrow C 2 (upd (chR C P k) k (nI q)) := by exact hset_upd _ _ _ _ _ _
                    have hP : va_P K.1 vwCl (cw K c b (hrow C 2 (upd (chR C P k) k (nI q)))) H := by rw [← eS0]; exact hP
                    have hD : va_D A (cw K c b (hrow C 2 (upd (chR C P k) k (nI q)))) := by rw [← eS0]; exact hD
                    exact ih21 (q + 1) (nI q) (t ||| 2 ^ q) _ _ _ (by omega) (by first | omega | assumption | first | rfl | (simp [c_9, c_25, c_33, c_43, c_59]; done) | omega) (by exact set_lt (P := 10) ht (by omega)) (by exact ch_hit hP0b hci c_43 c_33 c_59 c_25) hP hD hS (lv_cons (lv_at hl 2 rfl) (lv_cons (lv_is (lv_at hl 1 rfl) (show (nI t) ||| ((1 : Int32) <<< ((nI q) &&& 31)) = nI (t ||| 2 ^ q) by first | rfl | exact nn_or rfl (nn_shl1 rfl rfl (by omega)))) (lv_cons (lv_at hl 3 rfl) (lv_cons (lv_at hl 0 rfl) (lv_nil hl)))))
        have hP : va_P K.1 vwCl (cw K c b (hrow C 2 (upd (chR C P k) k (-1)))) H := hP
        have hD : va_D A (cw K c b (hrow C 2 (upd (chR C P k) k (-1)))) := hD
        exact lp21 _ 0 (-1) (tkC C P k) _ _ _ (Nat.lt_succ_self _) (by first | omega | assumption | first | rfl | (simp [c_9]; done) | omega) (by first | omega | assumption | first | rfl | (simp [c_9]; done) | omega) (by exact Or.inl ⟨rfl, rfl, by rw [Nat.sub_zero]; rfl⟩) hP hD hS (lv_cons (lv_at hl 1 rfl) (lv_cons (lv_at hl 2 rfl) (lv_cons (lv_at hl 3 rfl) (lv_cons (lv_is (lv_at hl 0 rfl) (show (0 : Int32) = nI 0 by first | rfl | (simp [c_9]; done) | omega)) (lv_nil hl)))))
  have eS0 : (C) = hrow C 2 (chR C P 0) := by rw [← chR_0, hrow_same]
  have hP : va_P K.1 vwCl (cw K c b (hrow C 2 (chR C P 0))) H := by rw [← eS0]; exact hP
  have hD : va_D A (cw K c b (hrow C 2 (chR C P 0))) := by rw [← eS0]; exact hD
  exact lp4 _ 0 _ _ _ (Nat.lt_succ_self _) (by first | omega | assumption | first | rfl | (simp; done) | omega) hP hD hS (lv_cons (lv_at hl 2 rfl) (lv_cons (lv_is (lv_at hl 1 rfl) (show (0 : Int32) = nI (tkC C P 0) by first | rfl | (simp; done) | omega)) (lv_cons (lv_is (lv_at hl 0 rfl) (show (0 : Int32) = nI 0 by first | rfl | (simp; done) | omega)) (lv_nil hl))))

theorem subset_iff {a F : Nat} (ha : a < 1024) (hF : F < 1024) : ((nI a) &&& ((nI F) ^^^ (-1 : Int32))) = (0 : Int32) ↔ ∀ q, a.testBit q = true → F.testBit q = true := by
  have hb : ∀ i, i < 32 → ((nI a) &&& ((nI F) ^^^ (-1 : Int32))).toBitVec.getLsbD i = (a.testBit i && !F.testBit i) := by
    intro i hi
    show (BitVec.ofNat 32 a &&& (BitVec.ofNat 32 F ^^^ (-1 : Int32).toBitVec)).getLsbD i = _
    have h1 : (-1 : Int32).toBitVec = BitVec.allOnes 32 := by decide
    rw [h1, BitVec.getLsbD_and, BitVec.getLsbD_xor, BitVec.getLsbD_allOnes, BitVec.getLsbD_ofNat, BitVec.getLsbD_ofNat]
    simp [hi]
  constructor
  · intro h q hq
    have hq32 : q < 32 := by
      rcases Nat.lt_or_ge q 10 with z | z
      · omega
      · rw [Nat.testBit_lt_two_pow (Nat.lt_of_lt_of_le ha (show 2 ^ 10 ≤ 2 ^ q from Nat.pow_le_pow_right (by decide) z))] at hq
        cases hq
    have h2 := hb q hq32
    rw [h] at h2
    have h3 : ((0 : Int32).toBitVec).getLsbD q = false := by
      show (0#32).getLsbD q = false
      simp
    rw [h3, hq] at h2
    simpa using h2.symm
  · intro h
    apply Int32.toBitVec_inj.1
    apply BitVec.eq_of_getLsbD_eq
    intro i hi
    rw [hb i hi]
    show _ = (0#32).getLsbD i
    cases hq : a.testBit i
    · simp
    · simp [h i hq]
theorem nn_m1 (x : Int32) : x + (-1) + 1 = x := by
  rw [Int32.add_assoc]
  show x + 0 = x
  simp
theorem nn_neg {x : Int32} {t : Nat} (h : x + 1 = nI t) (ht : t ≤ 1024) (hx : x < 0) : t = 0 := by
  rcases Nat.eq_zero_or_pos t with z | z
  · exact z
  · rw [nn_dec h z] at hx
    exact absurd hx (nI_pos (by omega))
theorem nn_npos {x : Int32} {t : Nat} (h : x + 1 = nI t) (hx : ¬ x < 0) : 0 < t := by
  rcases Nat.eq_zero_or_pos t with z | z
  · subst z
    exfalso
    apply hx
    have h2 : x + 1 - 1 = nI 0 - 1 := by rw [h]
    rw [Int32.add_sub_cancel] at h2
    rw [h2]
    decide
  · exact z
theorem wrow_put {w : Nat → Nat → Int32} {E : HV} {P k j : Nat} {v : Int32} (hP : P ≤ 10) (h : (∀ r, r < k → ∀ p, p < P → E 1 (r * 10 + p) = w p r) ∧ ∀ p, p < j → E 1 (k * 10 + p) = w p k) (hj : j < P) (hv : v = w j k) :
    (∀ r, r < k → ∀ p, p < P → (hset E 1 (k * 10 + j) v) 1 (r * 10 + p) = w p r) ∧ ∀ p, p < j + 1 → (hset E 1 (k * 10 + j) v) 1 (k * 10 + p) = w p k := by
  have e : (hset E 1 (k * 10 + j) v) 1 = upd (E 1) (k * 10 + j) v := rfl
  rw [e]
  refine ⟨fun r hr p hp => ?_, fun p hp => ?_⟩
  · rw [pk_un (by omega)]
    exact h.1 r hr p hp
  · by_cases c : p = j
    · subst c
      rw [pk_us, hv]
    · rw [pk_un (by omega)]
      exact h.2 p (by omega)
theorem wrow_row {w : Nat → Nat → Int32} {E : HV} {P k j : Nat} (h : (∀ r, r < k → ∀ p, p < P → E 1 (r * 10 + p) = w p r) ∧ ∀ p, p < j → E 1 (k * 10 + p) = w p k) (hj : P ≤ j) : ∀ r, r < k + 1 → ∀ p, p < P → E 1 (r * 10 + p) = w p r := by
  intro r hr p hp
  by_cases c : r = k
  · subst c
    exact h.2 p (by omega)
  · exact h.1 r (by omega) p hp
theorem wFr_free {S : HV} {F R P : Nat} : ∀ p r, p < P → r < R → wFr S F p r ≠ 0 → F.testBit p = true := by
  intro p r _ _ h
  unfold wFr at h
  by_cases c : F.testBit p = true
  · exact c
  · rw [if_neg c] at h
    exact absurd rfl h
/-- the value that is put for a set of free players -/
theorem best_val {S : HV} {F R P u : Nat} {E : HV} (hP : P ≤ 10) (hW : ∀ p r, p < P → r < R → E 1 (r * 10 + p) = wFr S F p r) (hT : tabOK (wFr S F) R P F (E 0) (u + 1)) (hu : u < 2 ^ P) (hs : ∀ q, u.testBit q = true → F.testBit q = true) (hr : pop u ≤ R) :
    (if R ≤ pop u then 0 else mxF (fun p => swC E p (pop u) u) P) = dpS (wFr S F) R P (R - pop u) u := by
  by_cases c : R ≤ pop u
  · rw [if_pos c, show R - pop u = 0 by omega, dpS]
  · rw [if_neg c, ← tab_val hP wFr_free hT hu hs (by omega)]
    refine mxF_cong fun p hp => ?_
    unfold swC swF wC
    rw [hW p _ hp (by omega)]
theorem tab_0 {w : Nat → Nat → Int32} {R P F : Nat} {B : Nat → Int32} (hT : tabOK w R P F B 0) : B 0 = dpS w R P R 0 := by
  have := hT 0 (Nat.zero_le _) (Nat.two_pow_pos _) (fun q hq => by simp at hq) (by rw [pop_0]; exact Nat.zero_le _)
  rw [this, pop_0, Nat.sub_zero]

abbrev rm_X0_seek : Room := { frames := 3, cells := 0, slots := 0, locals := 70 }
set_option maxHeartbeats 4000000 in
set_option maxRecDepth 100000 in
theorem c_X0_seek (l : Launch) (K : KX) (c : Nat) (b : Nat → Nat) (C : HV) (h : Nat) (a : Nat → Nat) (S : HV) (F : Nat) (hF : F < 1024) (R : Nat) (hR0 : S 10 0 = nI R) (hR0b : R ≤ 6) (P : Nat) (hP0 : S 11 0 = nI P) (hP0b : P ≤ 10) (sz : Nat) : Met l yX0_seek wsX0_seek rm_X0_seek (va_Pc [.ref c, .ref h, .int (nI F)] (xPre K (cw K c b C ++ hw K h a S) sz)) (va_Qi (fun (r9 : Int32) (u9 : HV) => r9 = dpS (wFr S F) R P R 0 ∧ castOK (wFr S F) R P u9) (fun u9 t => xPost K (va_A (cw K c b C ++ hw K h a S) sz) (cw K c b u9 ++ hw K h a S) t) (va_A (cw K c b C ++ hw K h a S) sz)) 0 0 (va_A (cw K c b C ++ hw K h a S) sz) := by
  refine xw_starti (cc := cX0_seek) (maxL := 5) (by decide) rfl (Nat.le_of_ble_eq_true rfl) ?_
  intro p9 e9 s9 m9 below9 meth9 c9 H locs ls A av9 Q9 hx hb hlocks hml hname hts hown hK hP hD hS hA hsz hend hl
  have hown : s9.vm.findClass RX0 = some m9.cls := hown
  have hl : lv_has ls 5 [(0, .ref c), (1, .ref h), (2, .int (nI F))] := hl
  have hi0 : ∀ w ∈ u_ws RX0 TX0 6, w ∈ wsX0_seek := by decide +kernel
  have lk27 := hts (.fieldLink RX0 27 "StandIns$Casting" "roles" "I") (by decide +kernel)
  have lk34 := hts (.fieldLink RX0 34 "StandIns$Casting" "players" "I") (by decide +kernel)
  have lk9 := hts (.fieldLink RX0 9 "StandIns$Casting" "best" "[I") (by decide +kernel)
  have lk54 := hts (.fieldLink RX0 54 "StandIns$Casting" "found" "Z") (by decide +kernel)
  have lk15 := hts (.fieldLink RX0 15 "StandIns$Casting" "worths" "[I") (by decide +kernel)
  have hpw := pw_le hP0b
  refine lv_aload_n hx hb dX0_seek_0 rfl (lv_at hl 0 rfl) ?_
  refine lv_aload_n hx hb dX0_seek_1 rfl (lv_at hl 1 rfl) ?_
  have hPc := P_sub (ws' := hw K h a S) hP [4, 5, 6, 7, 8, 9, 10, 11, 12, 13, 14] rfl
  refine xr_V (As := []) (rest := [.ref c]) ⟨hx, hb, hml, hown, hts⟩ (c_X2_roleCount l K h a S) (cwV 0 hts gX0_seek_X2_roleCount rfl rfl rfl (by decide +kernel) ⟨Nat.le_of_ble_eq_true rfl, Nat.le_of_ble_eq_true rfl⟩) hK hPc 0 2 rfl rfl rfl rfl hl.1 rfl (Nat.le_of_ble_eq_true rfl) (Nat.le_of_ble_eq_true rfl) (Nat.le_of_ble_eq_true rfl) dX0_seek_2 ?_
  refine va_put (ci := 0) (v := .int (S 10 0)) (ty := .int) (C := RX0) (T := TX0) (N := 6) hx hb hts hi0 tyX0 tyX0_ok nmX0 hown hK hP hD hS 0 rfl rfl 3 (by decide) lk27 (fun _ h9 => h9) rfl (by decide +kernel) rfl rfl (Nat.le_of_ble_eq_true rfl) dX0_seek_5 (fun H locs hP hD hS => ?_)
  have hP : va_P K.1 vwCl (cw K c b (hput C 3 (S 10 0)) ++ hw K h a S) H := hP
  have hD : va_D A (cw K c b (hput C 3 (S 10 0)) ++ hw K h a S) := hD
  refine lv_aload_n hx hb dX0_seek_8 rfl (lv_at hl 0 rfl) ?_
  refine lv_aload_n hx hb dX0_seek_9 rfl (lv_at hl 1 rfl) ?_
  have hPc := P_sub (ws' := hw K h a S) hP [4, 5, 6, 7, 8, 9, 10, 11, 12, 13, 14] rfl
  refine xr_V (As := []) (rest := [.ref c]) ⟨hx, hb, hml, hown, hts⟩ (c_X2_playerCount l K h a S) (cwV 0 hts gX0_seek_X2_playerCount rfl rfl rfl (by decide +kernel) ⟨Nat.le_of_ble_eq_true rfl, Nat.le_of_ble_eq_true rfl⟩) hK hPc 0 2 rfl rfl rfl rfl hl.1 rfl (Nat.le_of_ble_eq_true rfl) (Nat.le_of_ble_eq_true rfl) (Nat.le_of_ble_eq_true rfl) dX0_seek_10 ?_
  refine va_put (ci := 0) (v := .int (S 11 0)) (ty := .int) (C := RX0) (T := TX0) (N := 6) hx hb hts hi0 tyX0 tyX0_ok nmX0 hown hK hP hD hS 0 rfl rfl 4 (by decide) lk34 (fun _ h9 => h9) rfl (by decide +kernel) rfl rfl (Nat.le_of_ble_eq_true rfl) dX0_seek_13 (fun H locs hP hD hS => ?_)
  have hP : va_P K.1 vwCl (cw K c b (hput (hput C 3 (S 10 0)) 4 (S 11 0)) ++ hw K h a S) H := hP
  have hD : va_D A (cw K c b (hput (hput C 3 (S 10 0)) 4 (S 11 0)) ++ hw K h a S) := hD
  refine lv_iconst (v := (0 : Int32)) hx hb dX0_seek_16 (by decide) ?_
  refine lv_istore_n (lv' := [(3, .int (0 : Int32)), (0, .ref c), (1, .ref h), (2, .int (nI F))]) hx hb dX0_seek_17 rfl hl (by decide) rfl (fun ls hl => ?_)
  have lp18 : ∀ (n9 : Nat) (k : Nat) (D : HV) (H : Heap) (locs : List Loc) (ls : Array Slot), R - k < n9 → (k ≤ R) → (D 3 0 = nI R) → (D 4 0 = nI P) → (∀ r, r < k → ∀ p, p < P → D 1 (r * 10 + p) = wFr S F p r) → va_P K.1 vwCl (cw K c b D ++ hw K h a S) H → va_D A (cw K c b D ++ hw K h a S) → va_S A s9.heap H locs → lv_has ls 5 [(0, .ref c), (1, .ref h), (2, .int (nI F)), (3, .int (nI k))] → W p9 l e9 rm_X0_seek s9 m9 av9 below9 meth9 c9 H locs 0 0 Q9 (F0 m9 18 ls []) := by
    intro n9
    induction n9 with
    | zero => intro k D H locs ls hmu hk hD3 hD4 hW hP hD hS hl; exact absurd hmu (Nat.not_lt_zero _)
    | succ n9 ih18 =>
      intro k D H locs ls hmu hk hD3 hD4 hW hP hD hS hl
      refine lv_iload_n hx hb dX0_seek_18 rfl (lv_at hl 3 rfl) ?_
      refine lv_aload_n hx hb dX0_seek_19 rfl (lv_at hl 0 rfl) ?_
      refine va_get (ci := 0) (v := .int (D 3 0)) (C := RX0) (T := TX0) (N := 6) hx hb hts hi0 hown hK hP 0 rfl rfl 3 (by decide) lk27 (fun _ h9 => h9) rfl dX0_seek_20 ?_
      refine xn_icmp_ge (tgt := 82) hx hb k R rfl hD3 (by omega) (by omega) dX0_seek_23 (by decide) (fun c_23 => ?_) (fun c_23 => ?_)
      · skip
        refine lv_iconst (v := (1 : Int32)) hx hb dX0_seek_82 (by decide) ?_
        refine lv_aload_n hx hb dX0_seek_83 rfl (lv_at hl 0 rfl) ?_
        refine va_get (ci := 0) (v := .int (D 4 0)) (C := RX0) (T := TX0) (N := 6) hx hb hts hi0 hown hK hP 0 rfl rfl 4 (by decide) lk34 (fun _ h9 => h9) rfl dX0_seek_84 ?_
        refine lv_ishl hx hb dX0_seek_87 ?_
        refine lv_iconst (v := (1 : Int32)) hx hb dX0_seek_88 (by decide) ?_
        refine lv_isub hx hb dX0_seek_89 ?_
        refine lv_istore_n (lv' := [(3, .int (((1 : Int32) <<< ((D 4 0) &&& 31)) - (1 : Int32))), (0, .ref c), (1, .ref h), (2, .int (nI F))]) hx hb dX0_seek_90 rfl hl (by decide) rfl (fun ls hl => ?_)
        have lp91 : ∀ (n9 : Nat) (x : Int32) (t : Nat) (E : HV) (H : Heap) (locs : List Loc) (ls : Array Slot), t < n9 → (x + 1 = nI t) → (t ≤ 2 ^ P) → (E 3 0 = nI R) → (E 4 0 = nI P) → (∀ p r, p < P → r < R → E 1 (r * 10 + p) = wFr S F p r) → (tabOK (wFr S F) R P F (E 0) t) → va_P K.1 vwCl (cw K c b E ++ hw K h a S) H → va_D A (cw K c b E ++ hw K h a S) → va_S A s9.heap H locs → lv_has ls 5 [(0, .ref c), (1, .ref h), (2, .int (nI F)), (3, .int x)] → W p9 l e9 rm_X0_seek s9 m9 av9 below9 meth9 c9 H locs 0 0 Q9 (F0 m9 91 ls []) := by
          intro n9
          induction n9 with
          | zero => intro x t E H locs ls hmu hxx ht hE3 hE4 hEW hT hP hD hS hl; exact absurd hmu (Nat.not_lt_zero _)
          | succ n9 ih91 =>
            intro x t E H locs ls hmu hxx ht hE3 hE4 hEW hT hP hD hS hl
            refine lv_iload_n hx hb dX0_seek_91 rfl (lv_at hl 3 rfl) ?_
            refine lv_if_lt (tgt := 131) hx hb dX0_seek_92 (by decide) (fun c_92 => ?_) (fun c_92 => ?_)
            · skip
              have c_92n := Int32.not_le.mpr c_92
              have ht0 : t = 0 := nn_neg hxx (by omega) c_92
              subst ht0
              refine lv_aload_n hx hb dX0_seek_131 rfl (lv_at hl 0 rfl) ?_
              refine lv_aload_n hx hb dX0_seek_132 rfl (lv_at hl 0 rfl) ?_
              refine va_get (ci := 0) (v := .ref (b 0)) (C := RX0) (T := TX0) (N := 6) hx hb hts hi0 hown hK hP 0 rfl rfl 0 (by decide) lk9 (fun _ h9 => h9) rfl dX0_seek_133 ?_
              refine lv_iconst (v := (0 : Int32)) hx hb dX0_seek_136 (by decide) ?_
              refine xi_ld hx hb hK hP 1 (f := E 0) rfl 0 rfl (by omega) (by decide) dX0_seek_137 ?_
              refine lv_iconst (v := (-1 : Int32)) hx hb dX0_seek_138 (by decide) ?_
              refine lv_icmp_eq (tgt := 146) hx hb dX0_seek_139 (by decide) (fun c_139 => ?_) (fun c_139 => ?_)
              · skip
                refine lv_iconst (v := (0 : Int32)) hx hb dX0_seek_146 (by decide) ?_
                refine va_put (ci := 0) (v := .int (0 : Int32)) (ty := .boolean) (C := RX0) (T := TX0) (N := 6) hx hb hts hi0 tyX0 tyX0_ok nmX0 hown hK hP hD hS 0 rfl rfl 5 (by decide) lk54 (fun _ h9 => h9) rfl (by decide +kernel) rfl rfl (Nat.le_of_ble_eq_true rfl) dX0_seek_147 (fun H locs hP hD hS => ?_)
                have hP : va_P K.1 vwCl (cw K c b (hput E 5 (0 : Int32)) ++ hw K h a S) H := hP
                have hD : va_D A (cw K c b (hput E 5 (0 : Int32)) ++ hw K h a S) := hD
                refine lv_aload_n hx hb dX0_seek_150 rfl (lv_at hl 0 rfl) ?_
                refine xw_Vv (As := []) (rest := []) (wc := cw K c b (hput E 5 (0 : Int32))) (wr := (List.filterMap (fun i => (cw K c b (hput E 5 (0 : Int32)) ++ hw K h a S : va_W)[i]?) ([4, 5, 6, 7, 8, 9, 10, 11, 12, 13, 14] : List Nat))) ⟨hx, hb, hml, hown, hts⟩ (c_X0_chooseLowest l K c b (hput E 5 (0 : Int32)) R hE3 (by omega) P hE4 (by omega) H.size) (cwV 0 hts gX0_seek_X0_chooseLowest rfl rfl rfl (by decide +kernel) ⟨Nat.le_of_ble_eq_true rfl, Nat.le_of_ble_eq_true rfl⟩) hK hP hD hS hA [0, 1, 2, 3] [4, 5, 6, 7, 8, 9, 10, 11, 12, 13, 14] [11, 12, 13, 14, 0, 1, 2, 3, 4, 5, 6, 7, 8, 9, 10] rfl rfl rfl (fun _u => cw K c b (hrow (hput E 5 (0 : Int32)) 2 (chR (hput E 5 (0 : Int32)) P R)) ++ hw K h a S) (fun _ => rfl) 0 0 rfl rfl rfl rfl hl.1 rfl (Nat.le_of_ble_eq_true rfl) (Nat.le_of_ble_eq_true rfl) (Nat.le_of_ble_eq_true rfl) dX0_seek_151 (fun _ H locs hq151 hP hD hS => ?_)
                have hP : va_P K.1 vwCl (cw K c b (hrow (hput E 5 (0 : Int32)) 2 (chR (hput E 5 (0 : Int32)) P R)) ++ hw K h a S) H := hP
                have hD : va_D A (cw K c b (hrow (hput E 5 (0 : Int32)) 2 (chR (hput E 5 (0 : Int32)) P R)) ++ hw K h a S) := hD
                refine lv_aload_n hx hb dX0_seek_154 rfl (lv_at hl 0 rfl) ?_
                refine va_get (ci := 0) (v := .ref (b 0)) (C := RX0) (T := TX0) (N := 6) hx hb hts hi0 hown hK hP 0 rfl rfl 0 (by decide) lk9 (fun _ h9 => h9) rfl dX0_seek_155 ?_
                refine lv_iconst (v := (0 : Int32)) hx hb dX0_seek_158 (by decide) ?_
                refine xi_ld hx hb hK hP 1 (f := E 0) rfl 0 rfl (by omega) (by decide) dX0_seek_159 ?_
                exact hend _ _ _ _ _ _ _ _ hP hD hS (Nat.le_of_ble_eq_true rfl) (Nat.le_of_ble_eq_true rfl) (by exact ⟨tab_0 hT, hE3, fun r hr => (if_pos hr).trans (choose_ok hP0b (C := hput E 5 _) (fun p r hp hr => hEW p r hp hr) wFr_free hT (by first | exact (if_pos c_139).symm | exact (if_neg c_139).symm) r hr)⟩) dX0_seek_160
              · skip
                refine lv_iconst (v := (1 : Int32)) hx hb dX0_seek_142 (by decide) ?_
                refine lv_goto (tgt := 147) hx hb dX0_seek_143 (by decide) ?_
                refine va_put (ci := 0) (v := .int (1 : Int32)) (ty := .boolean) (C := RX0) (T := TX0) (N := 6) hx hb hts hi0 tyX0 tyX0_ok nmX0 hown hK hP hD hS 0 rfl rfl 5 (by decide) lk54 (fun _ h9 => h9) rfl (by decide +kernel) rfl rfl (Nat.le_of_ble_eq_true rfl) dX0_seek_147 (fun H locs hP hD hS => ?_)
                have hP : va_P K.1 vwCl (cw K c b (hput E 5 (1 : Int32)) ++ hw K h a S) H := hP
                have hD : va_D A (cw K c b (hput E 5 (1 : Int32)) ++ hw K h a S) := hD
                refine lv_aload_n hx hb dX0_seek_150 rfl (lv_at hl 0 rfl) ?_
                refine xw_Vv (As := []) (rest := []) (wc := cw K c b (hput E 5 (1 : Int32))) (wr := (List.filterMap (fun i => (cw K c b (hput E 5 (1 : Int32)) ++ hw K h a S : va_W)[i]?) ([4, 5, 6, 7, 8, 9, 10, 11, 12, 13, 14] : List Nat))) ⟨hx, hb, hml, hown, hts⟩ (c_X0_chooseLowest l K c b (hput E 5 (1 : Int32)) R hE3 (by omega) P hE4 (by omega) H.size) (cwV 0 hts gX0_seek_X0_chooseLowest rfl rfl rfl (by decide +kernel) ⟨Nat.le_of_ble_eq_true rfl, Nat.le_of_ble_eq_true rfl⟩) hK hP hD hS hA [0, 1, 2, 3] [4, 5, 6, 7, 8, 9, 10, 11, 12, 13, 14] [11, 12, 13, 14, 0, 1, 2, 3, 4, 5, 6, 7, 8, 9, 10] rfl rfl rfl (fun _u => cw K c b (hrow (hput E 5 (1 : Int32)) 2 (chR (hput E 5 (1 : Int32)) P R)) ++ hw K h a S) (fun _ => rfl) 0 0 rfl rfl rfl rfl hl.1 rfl (Nat.le_of_ble_eq_true rfl) (Nat.le_of_ble_eq_true rfl) (Nat.le_of_ble_eq_true rfl) dX0_seek_151 (fun _ H locs hq151 hP hD hS => ?_)
                have hP : va_P K.1 vwCl (cw K c b (hrow (hput E 5 (1 : Int32)) 2 (chR (hput E 5 (1 : Int32)) P R)) ++ hw K h a S) H := hP
                have hD : va_D A (cw K c b (hrow (hput E 5 (1 : Int32)) 2 (chR (hput E 5 (1 : Int32)) P R)) ++ hw K h a S) := hD
                refine lv_aload_n hx hb dX0_seek_154 rfl (lv_at hl 0 rfl) ?_
                refine va_get (ci := 0) (v := .ref (b 0)) (C := RX0) (T := TX0) (N := 6) hx hb hts hi0 hown hK hP 0 rfl rfl 0 (by decide) lk9 (fun _ h9 => h9) rfl dX0_seek_155 ?_
                refine lv_iconst (v := (0 : Int32)) hx hb dX0_seek_158 (by decide) ?_
                refine xi_ld hx hb hK hP 1 (f := E 0) rfl 0 rfl (by omega) (by decide) dX0_seek_159 ?_
                exact hend _ _ _ _ _ _ _ _ hP hD hS (Nat.le_of_ble_eq_true rfl) (Nat.le_of_ble_eq_true rfl) (by exact ⟨tab_0 hT, hE3, fun r hr => (if_pos hr).trans (choose_ok hP0b (C := hput E 5 _) (fun p r hp hr => hEW p r hp hr) wFr_free hT (by first | exact (if_pos c_139).symm | exact (if_neg c_139).symm) r hr)⟩) dX0_seek_160
            · skip
              have c_92n := Int32.not_lt.mp c_92
              have htp : 0 < t := nn_npos hxx c_92
              obtain ⟨u, rfl⟩ : ∃ u, t = u + 1 := ⟨t - 1, by omega⟩
              have hxt : x = nI u := nn_dec hxx htp
              subst hxt
              have hpu := pop_le u
              have hu2 : u < 2 ^ P := by omega
              refine lv_iload_n hx hb dX0_seek_95 rfl (lv_at hl 3 rfl) ?_
              refine lv_iload_n hx hb dX0_seek_96 rfl (lv_at hl 2 rfl) ?_
              refine lv_iconst (v := (-1 : Int32)) hx hb dX0_seek_97 (by decide) ?_
              refine lv_ixor hx hb dX0_seek_98 ?_
              refine lv_iand hx hb dX0_seek_99 ?_
              refine lv_if_ne (tgt := 125) hx hb dX0_seek_100 (by decide) (fun c_100 => ?_) (fun c_100 => ?_)
              · skip
                have hsub := fun z => c_100 ((subset_iff (by omega) hF).mpr z)
                refine lv_iinc (v := (nI u) + (-1)) (lv' := [(3, .int ((nI u) + (-1))), (0, .ref c), (1, .ref h), (2, .int (nI F))]) hx hb dX0_seek_125 hl (k := 3) rfl rfl (by decide) rfl (fun ls hl => ?_)
                refine lv_goto (tgt := 91) hx hb dX0_seek_128 (by decide) ?_
                exact ih91 ((nI u) + (-1)) u E _ _ _ (by omega) (by exact nn_m1 _) (by omega) (by exact hE3) (by exact hE4) (by exact hEW) (by exact tab_skip hT (fun z => hsub z.1)) hP hD hS (lv_cons (lv_at hl 1 rfl) (lv_cons (lv_at hl 2 rfl) (lv_cons (lv_at hl 3 rfl) (lv_cons (lv_at hl 0 rfl) (lv_nil hl)))))
              · skip
                have hsub := (subset_iff (by omega) hF).mp c_100
                refine lv_iload_n hx hb dX0_seek_103 rfl (lv_at hl 3 rfl) ?_
                have hPc := P_sub (ws' := []) hP [] rfl
                refine xr_S (As := [.int (nI u)]) (rest := []) ⟨hx, hb, hml, hown, hts⟩ (c_J6_bitCount_0f7a4 l K u (by omega)) (va_cwS 1 hts gX0_seek_J6_bitCount_0f7a4 rfl rfl rfl (by decide +kernel) ⟨Nat.le_of_ble_eq_true rfl, Nat.le_of_ble_eq_true rfl⟩) hK hPc rfl hl.1 rfl (Nat.le_of_ble_eq_true rfl) (Nat.le_of_ble_eq_true rfl) (Nat.le_of_ble_eq_true rfl) dX0_seek_104 ?_
                refine lv_aload_n hx hb dX0_seek_107 rfl (lv_at hl 0 rfl) ?_
                refine va_get (ci := 0) (v := .int (E 3 0)) (C := RX0) (T := TX0) (N := 6) hx hb hts hi0 hown hK hP 0 rfl rfl 3 (by decide) lk27 (fun _ h9 => h9) rfl dX0_seek_108 ?_
                refine xn_icmp_gt (tgt := 125) hx hb (pop u) R rfl hE3 (by omega) (by omega) dX0_seek_111 (by decide) (fun c_111 => ?_) (fun c_111 => ?_)
                · skip
                  refine lv_iinc (v := (nI u) + (-1)) (lv' := [(3, .int ((nI u) + (-1))), (0, .ref c), (1, .ref h), (2, .int (nI F))]) hx hb dX0_seek_125 hl (k := 3) rfl rfl (by decide) rfl (fun ls hl => ?_)
                  refine lv_goto (tgt := 91) hx hb dX0_seek_128 (by decide) ?_
                  exact ih91 ((nI u) + (-1)) u E _ _ _ (by omega) (by exact nn_m1 _) (by omega) (by exact hE3) (by exact hE4) (by exact hEW) (by exact tab_skip hT (fun z => by omega)) hP hD hS (lv_cons (lv_at hl 1 rfl) (lv_cons (lv_at hl 2 rfl) (lv_cons (lv_at hl 3 rfl) (lv_cons (lv_at hl 0 rfl) (lv_nil hl)))))
                · skip
                  refine lv_aload_n hx hb dX0_seek_114 rfl (lv_at hl 0 rfl) ?_
                  refine va_get (ci := 0) (v := .ref (b 0)) (C := RX0) (T := TX0) (N := 6) hx hb hts hi0 hown hK hP 0 rfl rfl 0 (by decide) lk9 (fun _ h9 => h9) rfl dX0_seek_115 ?_
                  refine lv_iload_n hx hb dX0_seek_118 rfl (lv_at hl 3 rfl) ?_
                  refine lv_aload_n hx hb dX0_seek_119 rfl (lv_at hl 0 rfl) ?_
                  refine lv_iload_n hx hb dX0_seek_120 rfl (lv_at hl 3 rfl) ?_
                  have hPc := P_sub (ws' := cw K c b E) hP [0, 1, 2, 3] rfl
                  refine xr_V (As := [.int (nI u)]) (rest := [.int (nI u), .ref (b 0)]) ⟨hx, hb, hml, hown, hts⟩ (c_X0_bestBehind l K c b E u (by omega) R hE3 (by omega) P hE4 (by omega)) (cwV 1 hts gX0_seek_X0_bestBehind rfl rfl rfl (by decide +kernel) ⟨Nat.le_of_ble_eq_true rfl, Nat.le_of_ble_eq_true rfl⟩) hK hPc 0 0 rfl rfl rfl rfl hl.1 rfl (Nat.le_of_ble_eq_true rfl) (Nat.le_of_ble_eq_true rfl) (Nat.le_of_ble_eq_true rfl) dX0_seek_121 ?_
                  refine xi_st hx hb hK hP hD hS 1 (f := E 0) rfl u rfl (by omega) (by decide) (cw K c b (hset E 0 u (if R ≤ pop u then 0 else mxF (fun p => swC E p (pop u) u) P)) ++ hw K h a S) rfl dX0_seek_124 (fun H locs hP hD hS => ?_)
                  refine lv_iinc (v := (nI u) + (-1)) (lv' := [(3, .int ((nI u) + (-1))), (0, .ref c), (1, .ref h), (2, .int (nI F))]) hx hb dX0_seek_125 hl (k := 3) rfl rfl (by decide) rfl (fun ls hl => ?_)
                  refine lv_goto (tgt := 91) hx hb dX0_seek_128 (by decide) ?_
                  exact ih91 ((nI u) + (-1)) u (hset E 0 u (if R ≤ pop u then 0 else mxF (fun p => swC E p (pop u) u) P)) _ _ _ (by omega) (by exact nn_m1 _) (by omega) (by exact hE3) (by exact hE4) (by exact hEW) (by exact tab_put hT (best_val hP0b hEW hT hu2 hsub c_111)) hP hD hS (lv_cons (lv_at hl 1 rfl) (lv_cons (lv_at hl 2 rfl) (lv_cons (lv_at hl 3 rfl) (lv_cons (lv_at hl 0 rfl) (lv_nil hl)))))
        exact lp91 _ (((1 : Int32) <<< ((D 4 0) &&& 31)) - (1 : Int32)) (2 ^ P) D _ _ _ (Nat.lt_succ_self _) (by rw [nn_shl1 (rfl : (1 : Int32) = nI 1) hD4 (by omega), Int32.sub_add_cancel]) (by exact Nat.le_refl _) (by exact hD3) (by exact hD4) (by exact fun p r hp hr => hW r (by omega) p hp) (by intro t h1 h2; omega) hP hD hS (lv_cons (lv_at hl 1 rfl) (lv_cons (lv_at hl 2 rfl) (lv_cons (lv_at hl 3 rfl) (lv_cons (lv_at hl 0 rfl) (lv_nil hl)))))
      · skip
        refine lv_iconst (v := (0 : Int32)) hx hb dX0_seek_26 (by decide) ?_
        refine lv_istore (lv' := [(4, .int (0 : Int32)), (0, .ref c), (1, .ref h), (2, .int (nI F)), (3, .int (nI k))]) hx hb dX0_seek_27 hl (by decide) rfl (fun ls hl => ?_)
        have lp29 : ∀ (n9 : Nat) (j : Nat) (E : HV) (H : Heap) (locs : List Loc) (ls : Array Slot), P - j < n9 → (j ≤ P) → (E 3 0 = nI R) → (E 4 0 = nI P) → ((∀ r, r < k → ∀ p, p < P → E 1 (r * 10 + p) = wFr S F p r) ∧ ∀ p, p < j → E 1 (k * 10 + p) = wFr S F p k) → va_P K.1 vwCl (cw K c b E ++ hw K h a S) H → va_D A (cw K c b E ++ hw K h a S) → va_S A s9.heap H locs → lv_has ls 5 [(0, .ref c), (1, .ref h), (2, .int (nI F)), (3, .int (nI k)), (4, .int (nI j))] → W p9 l e9 rm_X0_seek s9 m9 av9 below9 meth9 c9 H locs 0 0 Q9 (F0 m9 29 ls []) := by
          intro n9
          induction n9 with
          | zero => intro j E H locs ls hmu hj hE3 hE4 hW2 hP hD hS hl; exact absurd hmu (Nat.not_lt_zero _)
          | succ n9 ih29 =>
            intro j E H locs ls hmu hj hE3 hE4 hW2 hP hD hS hl
            refine lv_iload hx hb dX0_seek_29 (lv_at hl 4 rfl) ?_
            refine lv_aload_n hx hb dX0_seek_31 rfl (lv_at hl 0 rfl) ?_
            refine va_get (ci := 0) (v := .int (E 4 0)) (C := RX0) (T := TX0) (N := 6) hx hb hts hi0 hown hK hP 0 rfl rfl 4 (by decide) lk34 (fun _ h9 => h9) rfl dX0_seek_32 ?_
            refine xn_icmp_ge (tgt := 76) hx hb j P rfl hE4 (by omega) (by omega) dX0_seek_35 (by decide) (fun c_35 => ?_) (fun c_35 => ?_)
            · skip
              refine lv_iinc (v := nI (k + 1)) (lv' := [(3, .int (nI (k + 1))), (0, .ref c), (1, .ref h), (2, .int (nI F)), (4, .int (nI j))]) hx hb dX0_seek_76 hl (k := 3) rfl (nI_1 _) (by decide) rfl (fun ls hl => ?_)
              refine lv_goto (tgt := 18) hx hb dX0_seek_79 (by decide) ?_
              exact ih18 (k + 1) E _ _ _ (by omega) (by first | omega | assumption | first | rfl | (simp [c_23, c_35]; done) | omega) (by exact hE3) (by exact hE4) (by exact wrow_row hW2 c_35) hP hD hS (lv_cons (lv_at hl 1 rfl) (lv_cons (lv_at hl 2 rfl) (lv_cons (lv_at hl 3 rfl) (lv_cons (lv_at hl 0 rfl) (lv_nil hl)))))
            · skip
              refine lv_aload_n hx hb dX0_seek_38 rfl (lv_at hl 0 rfl) ?_
              refine va_get (ci := 0) (v := .ref (b 1)) (C := RX0) (T := TX0) (N := 6) hx hb hts hi0 hown hK hP 0 rfl rfl 1 (by decide) lk15 (fun _ h9 => h9) rfl dX0_seek_39 ?_
              refine lv_iload_n hx hb dX0_seek_42 rfl (lv_at hl 3 rfl) ?_
              refine lv_bipush (v := (10 : Int32)) hx hb dX0_seek_43 (by decide) ?_
              refine lv_imul hx hb dX0_seek_45 ?_
              refine lv_iload hx hb dX0_seek_46 (lv_at hl 4 rfl) ?_
              refine lv_iadd hx hb dX0_seek_48 ?_
              refine lv_iload_n hx hb dX0_seek_49 rfl (lv_at hl 2 rfl) ?_
              refine lv_iload hx hb dX0_seek_50 (lv_at hl 4 rfl) ?_
              have hPc := P_sub (ws' := []) hP [] rfl
              refine xr_S (As := [.int (nI F), .int (nI j)]) (rest := [.int (((nI k) * (10 : Int32)) + (nI j)), .ref (b 1)]) ⟨hx, hb, hml, hown, hts⟩ (c_X0_isIn l K F (by omega) j (by omega)) (va_cwS 2 hts gX0_seek_X0_isIn rfl rfl rfl (by decide +kernel) ⟨Nat.le_of_ble_eq_true rfl, Nat.le_of_ble_eq_true rfl⟩) hK hPc rfl hl.1 rfl (Nat.le_of_ble_eq_true rfl) (Nat.le_of_ble_eq_true rfl) (Nat.le_of_ble_eq_true rfl) dX0_seek_52 ?_
              refine xb_if_eq (tgt := 68) hx hb dX0_seek_55 (by decide) (fun c_55 => ?_) (fun c_55 => ?_)
              · skip
                refine lv_iconst (v := (0 : Int32)) hx hb dX0_seek_68 (by decide) ?_
                refine xi_st hx hb hK hP hD hS 2 (f := E 1) rfl ((k * 10) + j) (nn_add (nn_mul rfl rfl) rfl) (by omega) (by decide) (cw K c b (hset E 1 ((k * 10) + j) (0 : Int32)) ++ hw K h a S) rfl dX0_seek_69 (fun H locs hP hD hS => ?_)
                refine lv_iinc (v := nI (j + 1)) (lv' := [(4, .int (nI (j + 1))), (0, .ref c), (1, .ref h), (2, .int (nI F)), (3, .int (nI k))]) hx hb dX0_seek_70 hl (k := 4) rfl (nI_1 _) (by decide) rfl (fun ls hl => ?_)
                refine lv_goto (tgt := 29) hx hb dX0_seek_73 (by decide) ?_
                exact ih29 (j + 1) (hset E 1 ((k * 10) + j) (0 : Int32)) _ _ _ (by omega) (by first | omega | assumption | first | rfl | (simp [c_23, c_35, c_55]; done) | omega) (by exact hE3) (by exact hE4) (by exact wrow_put hP0b hW2 c_35 (by simp [wFr, c_55])) hP hD hS (lv_cons (lv_at hl 1 rfl) (lv_cons (lv_at hl 2 rfl) (lv_cons (lv_at hl 3 rfl) (lv_cons (lv_at hl 4 rfl) (lv_cons (lv_at hl 0 rfl) (lv_nil hl))))))
              · skip
                refine lv_aload_n hx hb dX0_seek_58 rfl (lv_at hl 1 rfl) ?_
                refine lv_iload hx hb dX0_seek_59 (lv_at hl 4 rfl) ?_
                refine lv_iload_n hx hb dX0_seek_61 rfl (lv_at hl 3 rfl) ?_
                have hPc := P_sub (ws' := hw K h a S) hP [4, 5, 6, 7, 8, 9, 10, 11, 12, 13, 14] rfl
                refine xr_V (As := [.int (nI j), .int (nI k)]) (rest := [.int (((nI k) * (10 : Int32)) + (nI j)), .ref (b 1)]) ⟨hx, hb, hml, hown, hts⟩ (c_X2_worthOf l K h a S j (by omega) k (by omega)) (cwV 2 hts gX0_seek_X2_worthOf rfl rfl rfl (by decide +kernel) ⟨Nat.le_of_ble_eq_true rfl, Nat.le_of_ble_eq_true rfl⟩) hK hPc 0 2 rfl rfl rfl rfl hl.1 rfl (Nat.le_of_ble_eq_true rfl) (Nat.le_of_ble_eq_true rfl) (Nat.le_of_ble_eq_true rfl) dX0_seek_62 ?_
                refine lv_goto (tgt := 69) hx hb dX0_seek_65 (by decide) ?_
                refine xi_st hx hb hK hP hD hS 2 (f := E 1) rfl ((k * 10) + j) (nn_add (nn_mul rfl rfl) rfl) (by omega) (by decide) (cw K c b (hset E 1 ((k * 10) + j) (wOf S j k)) ++ hw K h a S) rfl dX0_seek_69 (fun H locs hP hD hS => ?_)
                refine lv_iinc (v := nI (j + 1)) (lv' := [(4, .int (nI (j + 1))), (0, .ref c), (1, .ref h), (2, .int (nI F)), (3, .int (nI k))]) hx hb dX0_seek_70 hl (k := 4) rfl (nI_1 _) (by decide) rfl (fun ls hl => ?_)
                refine lv_goto (tgt := 29) hx hb dX0_seek_73 (by decide) ?_
                exact ih29 (j + 1) (hset E 1 ((k * 10) + j) (wOf S j k)) _ _ _ (by omega) (by first | omega | assumption | first | rfl | (simp [c_23, c_35, c_55]; done) | omega) (by exact hE3) (by exact hE4) (by exact wrow_put hP0b hW2 c_35 (by simp [wFr, c_55])) hP hD hS (lv_cons (lv_at hl 1 rfl) (lv_cons (lv_at hl 2 rfl) (lv_cons (lv_at hl 3 rfl) (lv_cons (lv_at hl 4 rfl) (lv_cons (lv_at hl 0 rfl) (lv_nil hl))))))
        exact lp29 _ 0 D _ _ _ (Nat.lt_succ_self _) (by first | omega | assumption | first | rfl | (simp [c_23]; done) | omega) (by exact hD3) (by exact hD4) (by exact ⟨hW, fun p hp => by omega⟩) hP hD hS (lv_cons (lv_at hl 1 rfl) (lv_cons (lv_at hl 2 rfl) (lv_cons (lv_at hl 3 rfl) (lv_cons (lv_at hl 4 rfl) (lv_cons (lv_is (lv_at hl 0 rfl) (show (0 : Int32) = nI 0 by first | rfl | (simp [c_23]; done) | omega)) (lv_nil hl))))))
  exact lp18 _ 0 (hput (hput C 3 (S 10 0)) 4 (S 11 0)) _ _ _ (Nat.lt_succ_self _) (by first | omega | assumption | first | rfl | (simp; done) | omega) (by exact hR0) (by exact hP0) (by intro r hr; omega) hP hD hS (lv_cons (lv_at hl 1 rfl) (lv_cons (lv_at hl 2 rfl) (lv_cons (lv_at hl 3 rfl) (lv_cons (lv_is (lv_at hl 0 rfl) (show (0 : Int32) = nI 0 by first | rfl | (simp; done) | omega)) (lv_nil hl)))))

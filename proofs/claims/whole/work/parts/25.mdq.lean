/-! the model: reading -/
abbrev isPlM (N : Nat → Int32) (p : Int32) : Prop := 0 ≤ p ∧ p < N 4
abbrev isRoM (N : Nat → Int32) (r : Int32) : Prop := 0 ≤ r ∧ r < N 3
def kRoM (N : Nat → Int32) (r w : Int32) : Nat := if ¬ isRoM N r then 1 else if ¬ inR w 0 4 then 2 else 0
def kPlM (N : Nat → Int32) (p w : Int32) : Nat := if ¬ isPlM N p then 1 else if ¬ inR w 0 5 then 2 else 0
def kBoM (N : Nat → Int32) (p r w : Int32) : Nat := if ¬ isPlM N p ∨ ¬ isRoM N r then 1 else if ¬ inR w 0 2 then 2 else 0
def sumM (N : Nat → Int32) : Nat → Int32 | 0 => 0 | k + 1 => sumM N k + N (30 + k)
def mAb (N : Nat → Int32) (P q : Nat) : Int32 := if q = 0 then N 3 else if q = 1 then N 4 else if q = 2 then N 0 else if q = 3 then N 1 else if q = 4 then N 2 else if q = 5 then sumM N P else if q = 6 then N 10 else N 11
def cntM (N : Nat → Int32) (r : Nat) : Nat → Int32 | 0 => 0 | k + 1 => cntM N r k + (if mFree N k ∧ 0 < N (70 + 6 * k + r) then 1 else 0)
def mRl (N : Nat → Int32) (R P r w : Nat) : Int32 := if w = 0 then N (12 + r) else if w = 1 then N (18 + r) else if w = 2 then csG N R P r else if w = 3 then (if N 10 = 1 then N (24 + r) else -1) else cntM N r P
def lstM (N : Nat → Int32) (R P : Nat) (p : Int32) : Nat → Int32 | 0 => -1 | k + 1 => if csG N R P k = p then nI k else lstM N R P p k
def mPl (N : Nat → Int32) (R P p w : Nat) : Int32 := if w = 0 then N (30 + p) else if w = 1 then N (40 + p) else if w = 2 then (if N 0 < N (50 + p) then N (50 + p) - N 0 else 0) else if w = 3 then bI (mFree N p) else if w = 4 then N (60 + p) else lstM N R P (nI p) R
def mBo (N : Nat → Int32) (p r w : Nat) : Int32 := if w = 0 then N (70 + 6 * p + r) else if w = 1 then N (130 + 6 * p + r) else mW N p r
def plcM (N : Nat → Int32) (p : Nat) : Nat → Int32 | 0 => 0 | q + 1 => plcM N p q + (if N (30 + p) < N (30 + q) ∨ (N (30 + q) = N (30 + p) ∧ q < p) then 1 else 0)
theorem km_lay {f g : Nat → Int32} {i n : Nat} (h : i < 190) (e : f i = nI n) : layF f g 0 0 190 i = nI n := by
  unfold layF
  rw [if_pos (by omega), show 0 + (i - 0) = i by omega]
  exact e

abbrev rm_X6_about : Room := { frames := 1, cells := 0, slots := 0, locals := 22 }
set_option maxHeartbeats 4000000 in
set_option maxRecDepth 100000 in
theorem c_X6_about (l : Launch) (K : KX) (h : Nat) (a : Nat → Nat) (M : HV) (w : Int32) (P : Nat) (hP0 : M 0 4 = nI P) (hP0b : P ≤ 10) (sz : Nat) : Met l yX6_about wsX6_about rm_X6_about (va_Pc [.ref h, .int w] (xPre K (mw K h a M) sz)) (va_Qi (fun (r9 : Int32) (_u : Unit) => kUp w 7 = 0 → r9 = mAb (M 0) P (cN w)) (fun _u t => xPost K (va_A (mw K h a M) sz) (mw K h a (hput (M) 8 (nI (kUp w 7)))) t) (va_A (mw K h a M) sz)) 0 0 (va_A (mw K h a M) sz) := by
  refine xw_starti (cc := cX6_about) (maxL := 4) (by decide) rfl (Nat.le_of_ble_eq_true rfl) ?_
  intro p9 e9 s9 m9 below9 meth9 c9 H locs ls A av9 Q9 hx hb hlocks hml hname hts hown hK hP hD hS hA hsz hend hl
  have hown : s9.vm.findClass RX6 = some m9.cls := hown
  have hl : lv_has ls 4 [(0, .ref h), (1, .int w)] := hl
  have hi6 : ∀ w ∈ u_ws RX6 TX6 14, w ∈ wsX6_about := by decide +kernel
  have lk42 := hts (.fieldLink RX6 42 "StandInsModel" "thrown" "I") (by decide +kernel)
  have lk7 := hts (.fieldLink RX6 7 "StandInsModel" "now" "[I") (by decide +kernel)
  refine lv_aload_n hx hb dX6_about_0 rfl (lv_at hl 0 rfl) ?_
  refine lv_iconst (v := (0 : Int32)) hx hb dX6_about_1 (by decide) ?_
  refine va_put (ci := 6) (v := .int (0 : Int32)) (ty := .int) (C := RX6) (T := TX6) (N := 14) hx hb hts hi6 tyX6 tyX6_ok nmX6 hown hK hP hD hS 0 rfl rfl 8 (by decide) lk42 (fun _ h9 => h9) rfl (by decide +kernel) rfl rfl (Nat.le_of_ble_eq_true rfl) dX6_about_2 (fun H locs hP hD hS => ?_)
  have hP : va_P K.1 vwCl (mw K h a (hput M 8 (0 : Int32))) H := hP
  have hD : va_D A (mw K h a (hput M 8 (0 : Int32))) := hD
  refine lv_iload_n hx hb dX6_about_5 rfl (lv_at hl 1 rfl) ?_
  refine lv_iconst (v := (0 : Int32)) hx hb dX6_about_6 (by decide) ?_
  refine lv_bipush (v := (7 : Int32)) hx hb dX6_about_7 (by decide) ?_
  have hPc := P_sub (ws' := []) hP [] rfl
  refine xr_S (As := [.int w, .int (0 : Int32), .int (7 : Int32)]) (rest := []) ⟨hx, hb, hml, hown, hts⟩ (c_X6_in l K w (0 : Int32) (7 : Int32)) (va_cwS 3 hts gX6_about_X6_in rfl rfl rfl (by decide +kernel) ⟨Nat.le_of_ble_eq_true rfl, Nat.le_of_ble_eq_true rfl⟩) hK hPc rfl hl.1 rfl (Nat.le_of_ble_eq_true rfl) (Nat.le_of_ble_eq_true rfl) (Nat.le_of_ble_eq_true rfl) dX6_about_9 ?_
  refine xb_if_ne (tgt := 21) hx hb dX6_about_12 (by decide) (fun c_12 => ?_) (fun c_12 => ?_)
  · skip
    have hn1 := rng_cN (lo := 0) (hi := 7) c_12 (by decide)
    refine lv_iload_n hx hb dX6_about_21 rfl (lv_at hl 1 rfl) ?_
    refine lv_iconst (v := (2 : Int32)) hx hb dX6_about_22 (by decide) ?_
    refine xn_icmp_ge (tgt := 41) hx hb (cN w) 2 hn1.1 rfl (by omega) (by decide) dX6_about_23 (by decide) (fun c_23 => ?_) (fun c_23 => ?_)
    · skip
      refine lv_iload_n hx hb dX6_about_41 rfl (lv_at hl 1 rfl) ?_
      refine lv_iconst (v := (5 : Int32)) hx hb dX6_about_42 (by decide) ?_
      refine xn_icmp_ne (tgt := 80) hx hb (cN w) 5 hn1.1 rfl (by omega) (by decide) dX6_about_43 (by decide) (fun c_43 => ?_) (fun c_43 => ?_)
      · skip
        refine lv_aload_n hx hb dX6_about_80 rfl (lv_at hl 0 rfl) ?_
        refine va_get (ci := 6) (v := .ref (a 0)) (C := RX6) (T := TX6) (N := 14) hx hb hts hi6 hown hK hP 0 rfl rfl 0 (by decide) lk7 (fun _ h9 => h9) rfl dX6_about_81 ?_
        refine lv_iload_n hx hb dX6_about_84 rfl (lv_at hl 1 rfl) ?_
        refine lv_iconst (v := (2 : Int32)) hx hb dX6_about_85 (by decide) ?_
        refine xn_icmp_ne (tgt := 93) hx hb (cN w) 2 hn1.1 rfl (by omega) (by decide) dX6_about_86 (by decide) (fun c_86 => ?_) (fun c_86 => ?_)
        · skip
          refine lv_iload_n hx hb dX6_about_93 rfl (lv_at hl 1 rfl) ?_
          refine lv_iconst (v := (3 : Int32)) hx hb dX6_about_94 (by decide) ?_
          refine xn_icmp_ne (tgt := 102) hx hb (cN w) 3 hn1.1 rfl (by omega) (by decide) dX6_about_95 (by decide) (fun c_95 => ?_) (fun c_95 => ?_)
          · skip
            refine lv_iload_n hx hb dX6_about_102 rfl (lv_at hl 1 rfl) ?_
            refine lv_iconst (v := (4 : Int32)) hx hb dX6_about_103 (by decide) ?_
            refine xn_icmp_ne (tgt := 111) hx hb (cN w) 4 hn1.1 rfl (by omega) (by decide) dX6_about_104 (by decide) (fun c_104 => ?_) (fun c_104 => ?_)
            · skip
              refine lv_iload_n hx hb dX6_about_111 rfl (lv_at hl 1 rfl) ?_
              refine lv_bipush (v := (6 : Int32)) hx hb dX6_about_112 (by decide) ?_
              refine xn_icmp_ne (tgt := 122) hx hb (cN w) 6 hn1.1 rfl (by omega) (by decide) dX6_about_114 (by decide) (fun c_114 => ?_) (fun c_114 => ?_)
              · skip
                refine lv_bipush (v := (11 : Int32)) hx hb dX6_about_122 (by decide) ?_
                refine xi_ld hx hb hK hP 1 (f := M 0) rfl 11 rfl (by omega) (by decide) dX6_about_124 ?_
                have eR2 : (0 : Int32) = nI (kUp w 7) := by exact (congrArg nI (show kUp w 7 = _ from (by simp [kUp, c_12, c_23, c_43, c_86, c_95, c_104, c_114]; done))).symm
                rw [eR2] at hP hD
                exact hend _ _ _ _ _ _ _ () hP hD hS (Nat.le_of_ble_eq_true rfl) (Nat.le_of_ble_eq_true rfl) (by first | (intro hk9; (unfold mAb; (repeat' split) <;> first | rfl | omega); done) | (intro hk9; simp [kUp, c_12, c_23, c_43, c_86, c_95, c_104, c_114] at hk9; done)) dX6_about_125
              · skip
                refine lv_bipush (v := (10 : Int32)) hx hb dX6_about_117 (by decide) ?_
                refine lv_goto (tgt := 124) hx hb dX6_about_119 (by decide) ?_
                refine xi_ld hx hb hK hP 1 (f := M 0) rfl 10 rfl (by omega) (by decide) dX6_about_124 ?_
                have eR3 : (0 : Int32) = nI (kUp w 7) := by exact (congrArg nI (show kUp w 7 = _ from (by simp [kUp, c_12, c_23, c_43, c_86, c_95, c_104, c_114]; done))).symm
                rw [eR3] at hP hD
                exact hend _ _ _ _ _ _ _ () hP hD hS (Nat.le_of_ble_eq_true rfl) (Nat.le_of_ble_eq_true rfl) (by first | (intro hk9; (unfold mAb; (repeat' split) <;> first | rfl | omega); done) | (intro hk9; simp [kUp, c_12, c_23, c_43, c_86, c_95, c_104, c_114] at hk9; done)) dX6_about_125
            · skip
              refine lv_iconst (v := (2 : Int32)) hx hb dX6_about_107 (by decide) ?_
              refine lv_goto (tgt := 124) hx hb dX6_about_108 (by decide) ?_
              refine xi_ld hx hb hK hP 1 (f := M 0) rfl 2 rfl (by omega) (by decide) dX6_about_124 ?_
              have eR4 : (0 : Int32) = nI (kUp w 7) := by exact (congrArg nI (show kUp w 7 = _ from (by simp [kUp, c_12, c_23, c_43, c_86, c_95, c_104]; done))).symm
              rw [eR4] at hP hD
              exact hend _ _ _ _ _ _ _ () hP hD hS (Nat.le_of_ble_eq_true rfl) (Nat.le_of_ble_eq_true rfl) (by first | (intro hk9; (unfold mAb; (repeat' split) <;> first | rfl | omega); done) | (intro hk9; simp [kUp, c_12, c_23, c_43, c_86, c_95, c_104] at hk9; done)) dX6_about_125
          · skip
            refine lv_iconst (v := (1 : Int32)) hx hb dX6_about_98 (by decide) ?_
            refine lv_goto (tgt := 124) hx hb dX6_about_99 (by decide) ?_
            refine xi_ld hx hb hK hP 1 (f := M 0) rfl 1 rfl (by omega) (by decide) dX6_about_124 ?_
            have eR5 : (0 : Int32) = nI (kUp w 7) := by exact (congrArg nI (show kUp w 7 = _ from (by simp [kUp, c_12, c_23, c_43, c_86, c_95]; done))).symm
            rw [eR5] at hP hD
            exact hend _ _ _ _ _ _ _ () hP hD hS (Nat.le_of_ble_eq_true rfl) (Nat.le_of_ble_eq_true rfl) (by first | (intro hk9; (unfold mAb; (repeat' split) <;> first | rfl | omega); done) | (intro hk9; simp [kUp, c_12, c_23, c_43, c_86, c_95] at hk9; done)) dX6_about_125
        · skip
          refine lv_iconst (v := (0 : Int32)) hx hb dX6_about_89 (by decide) ?_
          refine lv_goto (tgt := 124) hx hb dX6_about_90 (by decide) ?_
          refine xi_ld hx hb hK hP 1 (f := M 0) rfl 0 rfl (by omega) (by decide) dX6_about_124 ?_
          have eR6 : (0 : Int32) = nI (kUp w 7) := by exact (congrArg nI (show kUp w 7 = _ from (by simp [kUp, c_12, c_23, c_43, c_86]; done))).symm
          rw [eR6] at hP hD
          exact hend _ _ _ _ _ _ _ () hP hD hS (Nat.le_of_ble_eq_true rfl) (Nat.le_of_ble_eq_true rfl) (by first | (intro hk9; (unfold mAb; (repeat' split) <;> first | rfl | omega); done) | (intro hk9; simp [kUp, c_12, c_23, c_43, c_86] at hk9; done)) dX6_about_125
      · skip
        refine lv_iconst (v := (0 : Int32)) hx hb dX6_about_46 (by decide) ?_
        refine lv_istore_n (lv' := [(2, .int (0 : Int32)), (0, .ref h), (1, .int w)]) hx hb dX6_about_47 rfl hl (by decide) rfl (fun ls hl => ?_)
        refine lv_iconst (v := (0 : Int32)) hx hb dX6_about_48 (by decide) ?_
        refine lv_istore_n (lv' := [(3, .int (0 : Int32)), (2, .int (0 : Int32)), (0, .ref h), (1, .int w)]) hx hb dX6_about_49 rfl hl (by decide) rfl (fun ls hl => ?_)
        have lp50 : ∀ (n9 : Nat) (k : Nat) (H : Heap) (locs : List Loc) (ls : Array Slot), P - k < n9 → (k ≤ P) → va_P K.1 vwCl (mw K h a (hput M 8 (0 : Int32))) H → va_D A (mw K h a (hput M 8 (0 : Int32))) → va_S A s9.heap H locs → lv_has ls 4 [(0, .ref h), (1, .int w), (2, .int (sumM (M 0) k)), (3, .int (nI k))] → W p9 l e9 rm_X6_about s9 m9 av9 below9 meth9 c9 H locs 0 0 Q9 (F0 m9 50 ls []) := by
          intro n9
          induction n9 with
          | zero => intro k H locs ls hmu hk hP hD hS hl; exact absurd hmu (Nat.not_lt_zero _)
          | succ n9 ih50 =>
            intro k H locs ls hmu hk hP hD hS hl
            refine lv_iload_n hx hb dX6_about_50 rfl (lv_at hl 3 rfl) ?_
            refine lv_aload_n hx hb dX6_about_51 rfl (lv_at hl 0 rfl) ?_
            refine va_get (ci := 6) (v := .ref (a 0)) (C := RX6) (T := TX6) (N := 14) hx hb hts hi6 hown hK hP 0 rfl rfl 0 (by decide) lk7 (fun _ h9 => h9) rfl dX6_about_52 ?_
            refine lv_iconst (v := (4 : Int32)) hx hb dX6_about_55 (by decide) ?_
            refine xi_ld hx hb hK hP 1 (f := M 0) rfl 4 rfl (by omega) (by decide) dX6_about_56 ?_
            refine xn_icmp_ge (tgt := 78) hx hb k P rfl hP0 (by omega) (by omega) dX6_about_57 (by decide) (fun c_57 => ?_) (fun c_57 => ?_)
            · skip
              have hk9 : P = k := (show k = P from by omega).symm
              subst hk9
              refine lv_iload_n hx hb dX6_about_78 rfl (lv_at hl 2 rfl) ?_
              have eR7 : (0 : Int32) = nI (kUp w 7) := by exact (congrArg nI (show kUp w 7 = _ from (by simp [kUp, c_12, c_23, c_43, c_57]; done))).symm
              rw [eR7] at hP hD
              exact hend _ _ _ _ _ _ _ () hP hD hS (Nat.le_of_ble_eq_true rfl) (Nat.le_of_ble_eq_true rfl) (by first | (intro hk9; (unfold mAb; (repeat' split) <;> first | rfl | omega); done) | (intro hk9; simp [kUp, c_12, c_23, c_43, c_57] at hk9; done)) dX6_about_79
            · skip
              refine lv_iload_n hx hb dX6_about_60 rfl (lv_at hl 2 rfl) ?_
              refine lv_aload_n hx hb dX6_about_61 rfl (lv_at hl 0 rfl) ?_
              refine va_get (ci := 6) (v := .ref (a 0)) (C := RX6) (T := TX6) (N := 14) hx hb hts hi6 hown hK hP 0 rfl rfl 0 (by decide) lk7 (fun _ h9 => h9) rfl dX6_about_62 ?_
              refine lv_bipush (v := (30 : Int32)) hx hb dX6_about_65 (by decide) ?_
              refine lv_iload_n hx hb dX6_about_67 rfl (lv_at hl 3 rfl) ?_
              refine lv_iadd hx hb dX6_about_68 ?_
              refine xi_ld hx hb hK hP 1 (f := M 0) rfl (30 + k) (nn_add rfl rfl) (by omega) (by decide) dX6_about_69 ?_
              refine lv_iadd hx hb dX6_about_70 ?_
              refine lv_istore_n (lv' := [(2, .int ((sumM (M 0) k) + (M 0 (30 + k)))), (0, .ref h), (1, .int w), (3, .int (nI k))]) hx hb dX6_about_71 rfl hl (by decide) rfl (fun ls hl => ?_)
              refine lv_iinc (v := nI (k + 1)) (lv' := [(3, .int (nI (k + 1))), (2, .int ((sumM (M 0) k) + (M 0 (30 + k)))), (0, .ref h), (1, .int w)]) hx hb dX6_about_72 hl (k := 3) rfl (nI_1 _) (by decide) rfl (fun ls hl => ?_)
              refine lv_goto (tgt := 50) hx hb dX6_about_75 (by decide) ?_
              exact ih50 (k + 1) _ _ _ (by omega) (by first | omega | assumption | first | rfl | (simp [c_12, c_23, c_43, c_57]; done) | omega) hP hD hS (lv_cons (lv_at hl 2 rfl) (lv_cons (lv_at hl 3 rfl) (lv_cons (lv_is (lv_at hl 1 rfl) (show (sumM (M 0) k) + (M 0 (30 + k)) = sumM (M 0) (k + 1) by rfl)) (lv_cons (lv_at hl 0 rfl) (lv_nil hl)))))
        exact lp50 _ 0 _ _ _ (Nat.lt_succ_self _) (by first | omega | assumption | first | rfl | (simp [c_12, c_23, c_43]; done) | omega) hP hD hS (lv_cons (lv_at hl 2 rfl) (lv_cons (lv_at hl 3 rfl) (lv_cons (lv_is (lv_at hl 1 rfl) (show (0 : Int32) = sumM (M 0) 0 by rfl)) (lv_cons (lv_is (lv_at hl 0 rfl) (show (0 : Int32) = nI 0 by rfl)) (lv_nil hl)))))
    · skip
      refine lv_aload_n hx hb dX6_about_26 rfl (lv_at hl 0 rfl) ?_
      refine va_get (ci := 6) (v := .ref (a 0)) (C := RX6) (T := TX6) (N := 14) hx hb hts hi6 hown hK hP 0 rfl rfl 0 (by decide) lk7 (fun _ h9 => h9) rfl dX6_about_27 ?_
      refine lv_iload_n hx hb dX6_about_30 rfl (lv_at hl 1 rfl) ?_
      refine xn_if_ne (tgt := 38) hx hb (cN w) hn1.1 (by omega) dX6_about_31 (by decide) (fun c_31 => ?_) (fun c_31 => ?_)
      · skip
        refine lv_iconst (v := (4 : Int32)) hx hb dX6_about_38 (by decide) ?_
        refine xi_ld hx hb hK hP 1 (f := M 0) rfl 4 rfl (by omega) (by decide) dX6_about_39 ?_
        have eR8 : (0 : Int32) = nI (kUp w 7) := by exact (congrArg nI (show kUp w 7 = _ from (by simp [kUp, c_12, c_23, c_31]; done))).symm
        rw [eR8] at hP hD
        exact hend _ _ _ _ _ _ _ () hP hD hS (Nat.le_of_ble_eq_true rfl) (Nat.le_of_ble_eq_true rfl) (by first | (intro hk9; (unfold mAb; (repeat' split) <;> first | rfl | omega); done) | (intro hk9; simp [kUp, c_12, c_23, c_31] at hk9; done)) dX6_about_40
      · skip
        refine lv_iconst (v := (3 : Int32)) hx hb dX6_about_34 (by decide) ?_
        refine lv_goto (tgt := 39) hx hb dX6_about_35 (by decide) ?_
        refine xi_ld hx hb hK hP 1 (f := M 0) rfl 3 rfl (by omega) (by decide) dX6_about_39 ?_
        have eR9 : (0 : Int32) = nI (kUp w 7) := by exact (congrArg nI (show kUp w 7 = _ from (by simp [kUp, c_12, c_23, c_31]; done))).symm
        rw [eR9] at hP hD
        exact hend _ _ _ _ _ _ _ () hP hD hS (Nat.le_of_ble_eq_true rfl) (Nat.le_of_ble_eq_true rfl) (by first | (intro hk9; (unfold mAb; (repeat' split) <;> first | rfl | omega); done) | (intro hk9; simp [kUp, c_12, c_23, c_31] at hk9; done)) dX6_about_40
  · skip
    refine lv_aload_n hx hb dX6_about_15 rfl (lv_at hl 0 rfl) ?_
    refine lv_iconst (v := (1 : Int32)) hx hb dX6_about_16 (by decide) ?_
    refine xw_Vi (As := [.int (1 : Int32)]) (rest := []) (wc := mw K h a (hput M 8 (0 : Int32))) (wr := (List.filterMap (fun i => (mw K h a (hput M 8 (0 : Int32)) : va_W)[i]?) ([] : List Nat))) ⟨hx, hb, hml, hown, hts⟩ (c_X6_fails l K h a (hput M 8 (0 : Int32)) (1 : Int32) H.size) (cwV 1 hts gX6_about_X6_fails rfl rfl rfl (by decide +kernel) ⟨Nat.le_of_ble_eq_true rfl, Nat.le_of_ble_eq_true rfl⟩) hK hP hD hS hA [0, 1, 2, 3, 4, 5, 6, 7, 8, 9] [] [0, 1, 2, 3, 4, 5, 6, 7, 8, 9] rfl rfl rfl (fun _u => mw K h a (hput M 8 (1 : Int32))) (fun _ => rfl) 0 6 rfl rfl rfl rfl hl.1 rfl (Nat.le_of_ble_eq_true rfl) (Nat.le_of_ble_eq_true rfl) (Nat.le_of_ble_eq_true rfl) dX6_about_17 (fun r17 _ H locs hq17 hP hD hS => ?_)
    have hP : va_P K.1 vwCl (mw K h a (hput M 8 (1 : Int32))) H := hP
    have hD : va_D A (mw K h a (hput M 8 (1 : Int32))) := hD
    subst hq17
    have eR10 : (1 : Int32) = nI (kUp w 7) := by exact (congrArg nI (show kUp w 7 = _ from (by simp [kUp, c_12]; done))).symm
    rw [eR10] at hP hD
    exact hend _ _ _ _ _ _ _ () hP hD hS (Nat.le_of_ble_eq_true rfl) (Nat.le_of_ble_eq_true rfl) (by first | (intro hk9; (unfold mAb; (repeat' split) <;> first | rfl | omega); done) | (intro hk9; simp [kUp, c_12] at hk9; done)) dX6_about_20

abbrev rm_X6_ofRole : Room := { frames := 5, cells := 0, slots := 0, locals := 118 }
set_option maxHeartbeats 4000000 in
set_option maxRecDepth 100000 in
theorem c_X6_ofRole (l : Launch) (K : KX) (h : Nat) (a : Nat → Nat) (M : HV) (r : Nat) (hr : r < 6) (w : Nat) (hw : w < 5) (R : Nat) (hR0 : M 0 3 = nI R) (hR0b : R ≤ 6) (P : Nat) (hP0 : M 0 4 = nI P) (hP0b : P ≤ 10) (hok : mOK (M 0) R P) (sz : Nat) : Met l yX6_ofRole wsX6_ofRole rm_X6_ofRole (va_Pc [.ref h, .int (nI r), .int (nI w)] (xPre K (mw K h a M) sz)) (va_Qi (fun (r9 : Int32) (u9 : (Nat → Int32) × (Nat → Int32)) => r9 = mRl (M 0) R P r w) (fun u9 t => xPost K (va_A (mw K h a M) sz) (mw K h a (hrow (hrow M 9 u9.1) 10 u9.2)) t) (va_A (mw K h a M) sz)) 0 0 (va_A (mw K h a M) sz) := by
  refine xw_starti (cc := cX6_ofRole) (maxL := 5) (by decide) rfl (Nat.le_of_ble_eq_true rfl) ?_
  intro p9 e9 s9 m9 below9 meth9 c9 H locs ls A av9 Q9 hx hb hlocks hml hname hts hown hK hP hD hS hA hsz hend hl
  have hown : s9.vm.findClass RX6 = some m9.cls := hown
  have hl : lv_has ls 5 [(0, .ref h), (1, .int (nI r)), (2, .int (nI w))] := hl
  have hi6 : ∀ w ∈ u_ws RX6 TX6 14, w ∈ wsX6_ofRole := by decide +kernel
  have lk7 := hts (.fieldLink RX6 7 "StandInsModel" "now" "[I") (by decide +kernel)
  refine lv_iload_n hx hb dX6_ofRole_0 rfl (lv_at hl 2 rfl) ?_
  refine lv_iconst (v := (2 : Int32)) hx hb dX6_ofRole_1 (by decide) ?_
  refine xn_icmp_ne (tgt := 15) hx hb w 2 rfl rfl (by omega) (by decide) dX6_ofRole_2 (by decide) (fun c_2 => ?_) (fun c_2 => ?_)
  · skip
    refine lv_iload_n hx hb dX6_ofRole_15 rfl (lv_at hl 2 rfl) ?_
    refine lv_iconst (v := (4 : Int32)) hx hb dX6_ofRole_16 (by decide) ?_
    refine xn_icmp_ne (tgt := 65) hx hb w 4 rfl rfl (by omega) (by decide) dX6_ofRole_17 (by decide) (fun c_17 => ?_) (fun c_17 => ?_)
    · skip
      refine lv_iload_n hx hb dX6_ofRole_65 rfl (lv_at hl 2 rfl) ?_
      refine xn_if_ne (tgt := 81) hx hb w rfl (by omega) dX6_ofRole_66 (by decide) (fun c_66 => ?_) (fun c_66 => ?_)
      · skip
        refine lv_iload_n hx hb dX6_ofRole_81 rfl (lv_at hl 2 rfl) ?_
        refine lv_iconst (v := (1 : Int32)) hx hb dX6_ofRole_82 (by decide) ?_
        refine xn_icmp_ne (tgt := 98) hx hb w 1 rfl rfl (by omega) (by decide) dX6_ofRole_83 (by decide) (fun c_83 => ?_) (fun c_83 => ?_)
        · skip
          refine lv_aload_n hx hb dX6_ofRole_98 rfl (lv_at hl 0 rfl) ?_
          refine va_get (ci := 6) (v := .ref (a 0)) (C := RX6) (T := TX6) (N := 14) hx hb hts hi6 hown hK hP 0 rfl rfl 0 (by decide) lk7 (fun _ h9 => h9) rfl dX6_ofRole_99 ?_
          refine lv_bipush (v := (10 : Int32)) hx hb dX6_ofRole_102 (by decide) ?_
          refine xi_ld hx hb hK hP 1 (f := M 0) rfl 10 rfl (by omega) (by decide) dX6_ofRole_104 ?_
          refine lv_iconst (v := (1 : Int32)) hx hb dX6_ofRole_105 (by decide) ?_
          refine lv_icmp_ne (tgt := 121) hx hb dX6_ofRole_106 (by decide) (fun c_106 => ?_) (fun c_106 => ?_)
          · skip
            refine lv_iconst (v := (-1 : Int32)) hx hb dX6_ofRole_121 (by decide) ?_
            exact hend _ _ _ _ _ _ _ (M 9, M 10) hP hD hS (Nat.le_of_ble_eq_true rfl) (Nat.le_of_ble_eq_true rfl) (by (unfold mRl; (repeat' split) <;> first | rfl | omega | exact absurd C9 c_106 | (rename_i z9; exact absurd z9 c_106) | (rename_i z9; exact absurd c_106 z9))) dX6_ofRole_122
          · skip
            refine lv_aload_n hx hb dX6_ofRole_109 rfl (lv_at hl 0 rfl) ?_
            refine va_get (ci := 6) (v := .ref (a 0)) (C := RX6) (T := TX6) (N := 14) hx hb hts hi6 hown hK hP 0 rfl rfl 0 (by decide) lk7 (fun _ h9 => h9) rfl dX6_ofRole_110 ?_
            refine lv_bipush (v := (24 : Int32)) hx hb dX6_ofRole_113 (by decide) ?_
            refine lv_iload_n hx hb dX6_ofRole_115 rfl (lv_at hl 1 rfl) ?_
            refine lv_iadd hx hb dX6_ofRole_116 ?_
            refine xi_ld hx hb hK hP 1 (f := M 0) rfl (24 + r) (nn_add rfl rfl) (by omega) (by decide) dX6_ofRole_117 ?_
            refine lv_goto (tgt := 122) hx hb dX6_ofRole_118 (by decide) ?_
            exact hend _ _ _ _ _ _ _ (M 9, M 10) hP hD hS (Nat.le_of_ble_eq_true rfl) (Nat.le_of_ble_eq_true rfl) (by (unfold mRl; (repeat' split) <;> first | rfl | omega | exact absurd C9 c_106 | (rename_i z9; exact absurd z9 c_106) | (rename_i z9; exact absurd c_106 z9))) dX6_ofRole_122
        · skip
          refine lv_aload_n hx hb dX6_ofRole_86 rfl (lv_at hl 0 rfl) ?_
          refine va_get (ci := 6) (v := .ref (a 0)) (C := RX6) (T := TX6) (N := 14) hx hb hts hi6 hown hK hP 0 rfl rfl 0 (by decide) lk7 (fun _ h9 => h9) rfl dX6_ofRole_87 ?_
          refine lv_bipush (v := (18 : Int32)) hx hb dX6_ofRole_90 (by decide) ?_
          refine lv_iload_n hx hb dX6_ofRole_92 rfl (lv_at hl 1 rfl) ?_
          refine lv_iadd hx hb dX6_ofRole_93 ?_
          refine xi_ld hx hb hK hP 1 (f := M 0) rfl (18 + r) (nn_add rfl rfl) (by omega) (by decide) dX6_ofRole_94 ?_
          refine lv_goto (tgt := 122) hx hb dX6_ofRole_95 (by decide) ?_
          exact hend _ _ _ _ _ _ _ (M 9, M 10) hP hD hS (Nat.le_of_ble_eq_true rfl) (Nat.le_of_ble_eq_true rfl) (by (unfold mRl; (repeat' split) <;> first | rfl | omega | exact absurd C9 c_106 | (rename_i z9; exact absurd z9 c_106) | (rename_i z9; exact absurd c_106 z9))) dX6_ofRole_122
      · skip
        refine lv_aload_n hx hb dX6_ofRole_69 rfl (lv_at hl 0 rfl) ?_
        refine va_get (ci := 6) (v := .ref (a 0)) (C := RX6) (T := TX6) (N := 14) hx hb hts hi6 hown hK hP 0 rfl rfl 0 (by decide) lk7 (fun _ h9 => h9) rfl dX6_ofRole_70 ?_
        refine lv_bipush (v := (12 : Int32)) hx hb dX6_ofRole_73 (by decide) ?_
        refine lv_iload_n hx hb dX6_ofRole_75 rfl (lv_at hl 1 rfl) ?_
        refine lv_iadd hx hb dX6_ofRole_76 ?_
        refine xi_ld hx hb hK hP 1 (f := M 0) rfl (12 + r) (nn_add rfl rfl) (by omega) (by decide) dX6_ofRole_77 ?_
        refine lv_goto (tgt := 122) hx hb dX6_ofRole_78 (by decide) ?_
        exact hend _ _ _ _ _ _ _ (M 9, M 10) hP hD hS (Nat.le_of_ble_eq_true rfl) (Nat.le_of_ble_eq_true rfl) (by (unfold mRl; (repeat' split) <;> first | rfl | omega | exact absurd C9 c_106 | (rename_i z9; exact absurd z9 c_106) | (rename_i z9; exact absurd c_106 z9))) dX6_ofRole_122
    · skip
      refine lv_iconst (v := (0 : Int32)) hx hb dX6_ofRole_20 (by decide) ?_
      refine lv_istore_n (lv' := [(3, .int (0 : Int32)), (0, .ref h), (1, .int (nI r)), (2, .int (nI w))]) hx hb dX6_ofRole_21 rfl hl (by decide) rfl (fun ls hl => ?_)
      refine lv_iconst (v := (0 : Int32)) hx hb dX6_ofRole_22 (by decide) ?_
      refine lv_istore (lv' := [(4, .int (0 : Int32)), (3, .int (0 : Int32)), (0, .ref h), (1, .int (nI r)), (2, .int (nI w))]) hx hb dX6_ofRole_23 hl (by decide) rfl (fun ls hl => ?_)
      have lp25 : ∀ (n9 : Nat) (k : Nat) (H : Heap) (locs : List Loc) (ls : Array Slot), P - k < n9 → (k ≤ P) → va_P K.1 vwCl (mw K h a M) H → va_D A (mw K h a M) → va_S A s9.heap H locs → lv_has ls 5 [(0, .ref h), (1, .int (nI r)), (2, .int (nI w)), (3, .int (cntM (M 0) r k)), (4, .int (nI k))] → W p9 l e9 rm_X6_ofRole s9 m9 av9 below9 meth9 c9 H locs 0 0 Q9 (F0 m9 25 ls []) := by
        intro n9
        induction n9 with
        | zero => intro k H locs ls hmu hk hP hD hS hl; exact absurd hmu (Nat.not_lt_zero _)
        | succ n9 ih25 =>
          intro k H locs ls hmu hk hP hD hS hl
          refine lv_iload hx hb dX6_ofRole_25 (lv_at hl 4 rfl) ?_
          refine lv_aload_n hx hb dX6_ofRole_27 rfl (lv_at hl 0 rfl) ?_
          refine va_get (ci := 6) (v := .ref (a 0)) (C := RX6) (T := TX6) (N := 14) hx hb hts hi6 hown hK hP 0 rfl rfl 0 (by decide) lk7 (fun _ h9 => h9) rfl dX6_ofRole_28 ?_
          refine lv_iconst (v := (4 : Int32)) hx hb dX6_ofRole_31 (by decide) ?_
          refine xi_ld hx hb hK hP 1 (f := M 0) rfl 4 rfl (by omega) (by decide) dX6_ofRole_32 ?_
          refine xn_icmp_ge (tgt := 63) hx hb k P rfl hP0 (by omega) (by omega) dX6_ofRole_33 (by decide) (fun c_33 => ?_) (fun c_33 => ?_)
          · skip
            have hk9 : P = k := (show k = P from by omega).symm
            subst hk9
            refine lv_iload_n hx hb dX6_ofRole_63 rfl (lv_at hl 3 rfl) ?_
            exact hend _ _ _ _ _ _ _ (M 9, M 10) hP hD hS (Nat.le_of_ble_eq_true rfl) (Nat.le_of_ble_eq_true rfl) (by (unfold mRl; (repeat' split) <;> first | rfl | omega | exact absurd C9 c_106 | (rename_i z9; exact absurd z9 c_106) | (rename_i z9; exact absurd c_106 z9))) dX6_ofRole_64
          · skip
            refine lv_iload_n hx hb dX6_ofRole_36 rfl (lv_at hl 3 rfl) ?_
            refine lv_aload_n hx hb dX6_ofRole_37 rfl (lv_at hl 0 rfl) ?_
            refine va_get (ci := 6) (v := .ref (a 0)) (C := RX6) (T := TX6) (N := 14) hx hb hts hi6 hown hK hP 0 rfl rfl 0 (by decide) lk7 (fun _ h9 => h9) rfl dX6_ofRole_38 ?_
            refine lv_iload hx hb dX6_ofRole_41 (lv_at hl 4 rfl) ?_
            refine lv_iload_n hx hb dX6_ofRole_43 rfl (lv_at hl 1 rfl) ?_
            have hPc := P_sub (ws' := [((a 0), aI K 190 (M 0))]) hP [1] rfl
            refine xr_S (As := [.ref (a 0), .int (nI k), .int (nI r)]) (rest := [.int (cntM (M 0) r k)]) ⟨hx, hb, hml, hown, hts⟩ (c_X6_canPlay l K (a 0) (M 0) k (by omega) r (by omega)) (va_cwS 3 hts gX6_ofRole_X6_canPlay rfl rfl rfl (by decide +kernel) ⟨Nat.le_of_ble_eq_true rfl, Nat.le_of_ble_eq_true rfl⟩) hK hPc rfl hl.1 rfl (Nat.le_of_ble_eq_true rfl) (Nat.le_of_ble_eq_true rfl) (Nat.le_of_ble_eq_true rfl) dX6_ofRole_44 ?_
            refine xb_if_eq (tgt := 54) hx hb dX6_ofRole_47 (by decide) (fun c_47 => ?_) (fun c_47 => ?_)
            · skip
              refine lv_iconst (v := (0 : Int32)) hx hb dX6_ofRole_54 (by decide) ?_
              refine lv_iadd hx hb dX6_ofRole_55 ?_
              refine lv_istore_n (lv' := [(3, .int ((cntM (M 0) r k) + (0 : Int32))), (0, .ref h), (1, .int (nI r)), (2, .int (nI w)), (4, .int (nI k))]) hx hb dX6_ofRole_56 rfl hl (by decide) rfl (fun ls hl => ?_)
              refine lv_iinc (v := nI (k + 1)) (lv' := [(4, .int (nI (k + 1))), (3, .int ((cntM (M 0) r k) + (0 : Int32))), (0, .ref h), (1, .int (nI r)), (2, .int (nI w))]) hx hb dX6_ofRole_57 hl (k := 4) rfl (nI_1 _) (by decide) rfl (fun ls hl => ?_)
              refine lv_goto (tgt := 25) hx hb dX6_ofRole_60 (by decide) ?_
              exact ih25 (k + 1) _ _ _ (by omega) (by first | omega | assumption | first | rfl | (simp [c_2, c_17, c_33, c_47]; done) | omega) hP hD hS (lv_cons (lv_at hl 2 rfl) (lv_cons (lv_at hl 3 rfl) (lv_cons (lv_at hl 4 rfl) (lv_cons (lv_is (lv_at hl 1 rfl) (show (cntM (M 0) r k) + (0 : Int32) = cntM (M 0) r (k + 1) by (rw [cntM]; first | rw [if_pos c_47] | rw [if_neg c_47]))) (lv_cons (lv_at hl 0 rfl) (lv_nil hl))))))
            · skip
              refine lv_iconst (v := (1 : Int32)) hx hb dX6_ofRole_50 (by decide) ?_
              refine lv_goto (tgt := 55) hx hb dX6_ofRole_51 (by decide) ?_
              refine lv_iadd hx hb dX6_ofRole_55 ?_
              refine lv_istore_n (lv' := [(3, .int ((cntM (M 0) r k) + (1 : Int32))), (0, .ref h), (1, .int (nI r)), (2, .int (nI w)), (4, .int (nI k))]) hx hb dX6_ofRole_56 rfl hl (by decide) rfl (fun ls hl => ?_)
              refine lv_iinc (v := nI (k + 1)) (lv' := [(4, .int (nI (k + 1))), (3, .int ((cntM (M 0) r k) + (1 : Int32))), (0, .ref h), (1, .int (nI r)), (2, .int (nI w))]) hx hb dX6_ofRole_57 hl (k := 4) rfl (nI_1 _) (by decide) rfl (fun ls hl => ?_)
              refine lv_goto (tgt := 25) hx hb dX6_ofRole_60 (by decide) ?_
              exact ih25 (k + 1) _ _ _ (by omega) (by first | omega | assumption | first | rfl | (simp [c_2, c_17, c_33, c_47]; done) | omega) hP hD hS (lv_cons (lv_at hl 2 rfl) (lv_cons (lv_at hl 3 rfl) (lv_cons (lv_at hl 4 rfl) (lv_cons (lv_is (lv_at hl 1 rfl) (show (cntM (M 0) r k) + (1 : Int32) = cntM (M 0) r (k + 1) by (rw [cntM]; first | rw [if_pos c_47] | rw [if_neg c_47]))) (lv_cons (lv_at hl 0 rfl) (lv_nil hl))))))
      exact lp25 _ 0 _ _ _ (Nat.lt_succ_self _) (by first | omega | assumption | first | rfl | (simp [c_2, c_17]; done) | omega) hP hD hS (lv_cons (lv_at hl 2 rfl) (lv_cons (lv_at hl 3 rfl) (lv_cons (lv_at hl 4 rfl) (lv_cons (lv_is (lv_at hl 1 rfl) (show (0 : Int32) = cntM (M 0) r 0 by rfl)) (lv_cons (lv_is (lv_at hl 0 rfl) (show (0 : Int32) = nI 0 by rfl)) (lv_nil hl))))))
  · skip
    refine lv_aload_n hx hb dX6_ofRole_5 rfl (lv_at hl 0 rfl) ?_
    refine lv_aload_n hx hb dX6_ofRole_6 rfl (lv_at hl 0 rfl) ?_
    refine va_get (ci := 6) (v := .ref (a 0)) (C := RX6) (T := TX6) (N := 14) hx hb hts hi6 hown hK hP 0 rfl rfl 0 (by decide) lk7 (fun _ h9 => h9) rfl dX6_ofRole_7 ?_
    refine lv_iload_n hx hb dX6_ofRole_10 rfl (lv_at hl 1 rfl) ?_
    refine xw_Vi (As := [.ref (a 0), .int (nI r)]) (rest := []) (wc := mw K h a M) (wr := (List.filterMap (fun i => (mw K h a M : va_W)[i]?) ([] : List Nat))) ⟨hx, hb, hml, hown, hts⟩ (c_X6_castFor_n l K h a M r (by omega) R hR0 (by omega) P hP0 (by omega) (by first | assumption | omega) H.size) (cwV 2 hts gX6_ofRole_X6_castFor rfl rfl rfl (by decide +kernel) ⟨Nat.le_of_ble_eq_true rfl, Nat.le_of_ble_eq_true rfl⟩) hK hP hD hS hA [0, 1, 2, 3, 4, 5, 6, 7, 8, 9] [] [0, 1, 2, 3, 4, 5, 6, 7, 8, 9] rfl rfl rfl (fun E11 => mw K h a (hrow (hrow M 9 E11) 10 (mcR (M 0) R P (M 10) 6))) (fun _ => rfl) 0 6 rfl rfl rfl rfl hl.1 rfl (Nat.le_of_ble_eq_true rfl) (Nat.le_of_ble_eq_true rfl) (Nat.le_of_ble_eq_true rfl) dX6_ofRole_11 (fun r11 E11 H locs hq11 hP hD hS => ?_)
    have hP : va_P K.1 vwCl (mw K h a (hrow (hrow M 9 E11) 10 (mcR (M 0) R P (M 10) 6))) H := hP
    have hD : va_D A (mw K h a (hrow (hrow M 9 E11) 10 (mcR (M 0) R P (M 10) 6))) := hD
    subst hq11
    exact hend _ _ _ _ _ _ _ (E11, mcR (M 0) R P (M 10) 6) hP hD hS (Nat.le_of_ble_eq_true rfl) (Nat.le_of_ble_eq_true rfl) (by (unfold mRl; (repeat' split) <;> first | rfl | omega | exact absurd C9 c_106 | (rename_i z9; exact absurd z9 c_106) | (rename_i z9; exact absurd c_106 z9))) dX6_ofRole_14

abbrev rm_X6_role : Room := { frames := 6, cells := 0, slots := 0, locals := 142 }
set_option maxHeartbeats 4000000 in
set_option maxRecDepth 100000 in
theorem c_X6_role (l : Launch) (K : KX) (h : Nat) (a : Nat → Nat) (M : HV) (r : Int32) (w : Int32) (R : Nat) (hR0 : M 0 3 = nI R) (hR0b : R ≤ 6) (P : Nat) (hP0 : M 0 4 = nI P) (hP0b : P ≤ 10) (hok : mOK (M 0) R P) (sz : Nat) : Met l yX6_role wsX6_role rm_X6_role (va_Pc [.ref h, .int r, .int w] (xPre K (mw K h a M) sz)) (va_Qi (fun (r9 : Int32) (u9 : (Nat → Int32) × (Nat → Int32)) => kRoM (M 0) r w = 0 → r9 = mRl (M 0) R P (cN r) (cN w)) (fun u9 t => xPost K (va_A (mw K h a M) sz) (mw K h a (hput (hrow (hrow M 9 u9.1) 10 u9.2) 8 (nI (kRoM (M 0) r w)))) t) (va_A (mw K h a M) sz)) 0 0 (va_A (mw K h a M) sz) := by
  refine xw_starti (cc := cX6_role) (maxL := 3) (by decide) rfl (Nat.le_of_ble_eq_true rfl) ?_
  intro p9 e9 s9 m9 below9 meth9 c9 H locs ls A av9 Q9 hx hb hlocks hml hname hts hown hK hP hD hS hA hsz hend hl
  have hown : s9.vm.findClass RX6 = some m9.cls := hown
  have hl : lv_has ls 3 [(0, .ref h), (1, .int r), (2, .int w)] := hl
  have hi6 : ∀ w ∈ u_ws RX6 TX6 14, w ∈ wsX6_role := by decide +kernel
  have lk42 := hts (.fieldLink RX6 42 "StandInsModel" "thrown" "I") (by decide +kernel)
  have lk7 := hts (.fieldLink RX6 7 "StandInsModel" "now" "[I") (by decide +kernel)
  refine lv_aload_n hx hb dX6_role_0 rfl (lv_at hl 0 rfl) ?_
  refine lv_iconst (v := (0 : Int32)) hx hb dX6_role_1 (by decide) ?_
  refine va_put (ci := 6) (v := .int (0 : Int32)) (ty := .int) (C := RX6) (T := TX6) (N := 14) hx hb hts hi6 tyX6 tyX6_ok nmX6 hown hK hP hD hS 0 rfl rfl 8 (by decide) lk42 (fun _ h9 => h9) rfl (by decide +kernel) rfl rfl (Nat.le_of_ble_eq_true rfl) dX6_role_2 (fun H locs hP hD hS => ?_)
  have hP : va_P K.1 vwCl (mw K h a (hput M 8 (0 : Int32))) H := hP
  have hD : va_D A (mw K h a (hput M 8 (0 : Int32))) := hD
  refine lv_aload_n hx hb dX6_role_5 rfl (lv_at hl 0 rfl) ?_
  refine va_get (ci := 6) (v := .ref (a 0)) (C := RX6) (T := TX6) (N := 14) hx hb hts hi6 hown hK hP 0 rfl rfl 0 (by decide) lk7 (fun _ h9 => h9) rfl dX6_role_6 ?_
  refine lv_iload_n hx hb dX6_role_9 rfl (lv_at hl 1 rfl) ?_
  have hPc := P_sub (ws' := [((a 0), aI K 190 (M 0))]) hP [1] rfl
  refine xr_S (As := [.ref (a 0), .int r]) (rest := []) ⟨hx, hb, hml, hown, hts⟩ (c_X6_isRole l K (a 0) (M 0) r R hR0 (by omega)) (va_cwS 2 hts gX6_role_X6_isRole rfl rfl rfl (by decide +kernel) ⟨Nat.le_of_ble_eq_true rfl, Nat.le_of_ble_eq_true rfl⟩) hK hPc rfl hl.1 rfl (Nat.le_of_ble_eq_true rfl) (Nat.le_of_ble_eq_true rfl) (Nat.le_of_ble_eq_true rfl) dX6_role_10 ?_
  refine xb_if_ne (tgt := 22) hx hb dX6_role_13 (by decide) (fun c_13 => ?_) (fun c_13 => ?_)
  · skip
    have hn1 := idx_cN hR0 (by omega) c_13
    refine lv_iload_n hx hb dX6_role_22 rfl (lv_at hl 2 rfl) ?_
    refine lv_iconst (v := (0 : Int32)) hx hb dX6_role_23 (by decide) ?_
    refine lv_iconst (v := (4 : Int32)) hx hb dX6_role_24 (by decide) ?_
    have hPc := P_sub (ws' := []) hP [] rfl
    refine xr_S (As := [.int w, .int (0 : Int32), .int (4 : Int32)]) (rest := []) ⟨hx, hb, hml, hown, hts⟩ (c_X6_in l K w (0 : Int32) (4 : Int32)) (va_cwS 3 hts gX6_role_X6_in rfl rfl rfl (by decide +kernel) ⟨Nat.le_of_ble_eq_true rfl, Nat.le_of_ble_eq_true rfl⟩) hK hPc rfl hl.1 rfl (Nat.le_of_ble_eq_true rfl) (Nat.le_of_ble_eq_true rfl) (Nat.le_of_ble_eq_true rfl) dX6_role_25 ?_
    refine xb_if_eq (tgt := 40) hx hb dX6_role_28 (by decide) (fun c_28 => ?_) (fun c_28 => ?_)
    · skip
      refine lv_aload_n hx hb dX6_role_40 rfl (lv_at hl 0 rfl) ?_
      refine lv_iconst (v := (2 : Int32)) hx hb dX6_role_41 (by decide) ?_
      refine xw_Vi (As := [.int (2 : Int32)]) (rest := []) (wc := mw K h a (hput M 8 (0 : Int32))) (wr := (List.filterMap (fun i => (mw K h a (hput M 8 (0 : Int32)) : va_W)[i]?) ([] : List Nat))) ⟨hx, hb, hml, hown, hts⟩ (c_X6_fails l K h a (hput M 8 (0 : Int32)) (2 : Int32) H.size) (cwV 1 hts gX6_role_X6_fails rfl rfl rfl (by decide +kernel) ⟨Nat.le_of_ble_eq_true rfl, Nat.le_of_ble_eq_true rfl⟩) hK hP hD hS hA [0, 1, 2, 3, 4, 5, 6, 7, 8, 9] [] [0, 1, 2, 3, 4, 5, 6, 7, 8, 9] rfl rfl rfl (fun _u => mw K h a (hput M 8 (2 : Int32))) (fun _ => rfl) 0 6 rfl rfl rfl rfl hl.1 rfl (Nat.le_of_ble_eq_true rfl) (Nat.le_of_ble_eq_true rfl) (Nat.le_of_ble_eq_true rfl) dX6_role_42 (fun r42 _ H locs hq42 hP hD hS => ?_)
      have hP : va_P K.1 vwCl (mw K h a (hput M 8 (2 : Int32))) H := hP
      have hD : va_D A (mw K h a (hput M 8 (2 : Int32))) := hD
      subst hq42
      have eR2 : (2 : Int32) = nI (kRoM (M 0) r w) := by exact (congrArg nI (show kRoM (M 0) r w = _ from (by simp [kRoM, c_13, c_28]; done))).symm
      rw [eR2] at hP hD
      exact hend _ _ _ _ _ _ _ (M 9, M 10) hP hD hS (Nat.le_of_ble_eq_true rfl) (Nat.le_of_ble_eq_true rfl) (by first | (intro hk9; rfl; done) | (intro hk9; simp [kRoM, c_13, c_28] at hk9; done)) dX6_role_45
    · skip
      have hn3 := rng_cN (lo := 0) (hi := 4) c_28 (by decide)
      refine lv_aload_n hx hb dX6_role_31 rfl (lv_at hl 0 rfl) ?_
      refine lv_iload_n hx hb dX6_role_32 rfl (lv_at hl 1 rfl) ?_
      refine lv_iload_n hx hb dX6_role_33 rfl (lv_at hl 2 rfl) ?_
      rw [show r = nI (cN r) from hn1.1]
      rw [show w = nI (cN w) from hn3.1]
      refine xw_Vi (As := [.int (nI (cN r)), .int (nI (cN w))]) (rest := []) (wc := mw K h a (hput M 8 (0 : Int32))) (wr := (List.filterMap (fun i => (mw K h a (hput M 8 (0 : Int32)) : va_W)[i]?) ([] : List Nat))) ⟨hx, hb, hml, hown, hts⟩ (c_X6_ofRole l K h a (hput M 8 (0 : Int32)) (cN r) (by omega) (cN w) (by omega) R hR0 (by omega) P hP0 (by omega) (by first | assumption | omega) H.size) (cwV 2 hts gX6_role_X6_ofRole rfl rfl rfl (by decide +kernel) ⟨Nat.le_of_ble_eq_true rfl, Nat.le_of_ble_eq_true rfl⟩) hK hP hD hS hA [0, 1, 2, 3, 4, 5, 6, 7, 8, 9] [] [0, 1, 2, 3, 4, 5, 6, 7, 8, 9] rfl rfl rfl (fun D34 => mw K h a (hrow (hrow (hput M 8 (0 : Int32)) 9 D34.1) 10 D34.2)) (fun _ => rfl) 0 6 rfl rfl rfl rfl hl.1 rfl (Nat.le_of_ble_eq_true rfl) (Nat.le_of_ble_eq_true rfl) (Nat.le_of_ble_eq_true rfl) dX6_role_34 (fun r34 D34 H locs hq34 hP hD hS => ?_)
      have hP : va_P K.1 vwCl (mw K h a (hrow (hrow (hput M 8 (0 : Int32)) 9 D34.1) 10 D34.2)) H := hP
      have hD : va_D A (mw K h a (hrow (hrow (hput M 8 (0 : Int32)) 9 D34.1) 10 D34.2)) := hD
      subst hq34
      refine lv_goto (tgt := 45) hx hb dX6_role_37 (by decide) ?_
      have eR4 : (0 : Int32) = nI (kRoM (M 0) r w) := by exact (congrArg nI (show kRoM (M 0) r w = _ from (by simp [kRoM, c_13, c_28]; done))).symm
      rw [eR4] at hP hD
      exact hend _ _ _ _ _ _ _ (D34.1, D34.2) hP hD hS (Nat.le_of_ble_eq_true rfl) (Nat.le_of_ble_eq_true rfl) (by first | (intro hk9; rfl; done) | (intro hk9; simp [kRoM, c_13, c_28] at hk9; done)) dX6_role_45
  · skip
    refine lv_aload_n hx hb dX6_role_16 rfl (lv_at hl 0 rfl) ?_
    refine lv_iconst (v := (1 : Int32)) hx hb dX6_role_17 (by decide) ?_
    refine xw_Vi (As := [.int (1 : Int32)]) (rest := []) (wc := mw K h a (hput M 8 (0 : Int32))) (wr := (List.filterMap (fun i => (mw K h a (hput M 8 (0 : Int32)) : va_W)[i]?) ([] : List Nat))) ⟨hx, hb, hml, hown, hts⟩ (c_X6_fails l K h a (hput M 8 (0 : Int32)) (1 : Int32) H.size) (cwV 1 hts gX6_role_X6_fails rfl rfl rfl (by decide +kernel) ⟨Nat.le_of_ble_eq_true rfl, Nat.le_of_ble_eq_true rfl⟩) hK hP hD hS hA [0, 1, 2, 3, 4, 5, 6, 7, 8, 9] [] [0, 1, 2, 3, 4, 5, 6, 7, 8, 9] rfl rfl rfl (fun _u => mw K h a (hput M 8 (1 : Int32))) (fun _ => rfl) 0 6 rfl rfl rfl rfl hl.1 rfl (Nat.le_of_ble_eq_true rfl) (Nat.le_of_ble_eq_true rfl) (Nat.le_of_ble_eq_true rfl) dX6_role_18 (fun r18 _ H locs hq18 hP hD hS => ?_)
    have hP : va_P K.1 vwCl (mw K h a (hput M 8 (1 : Int32))) H := hP
    have hD : va_D A (mw K h a (hput M 8 (1 : Int32))) := hD
    subst hq18
    have eR5 : (1 : Int32) = nI (kRoM (M 0) r w) := by exact (congrArg nI (show kRoM (M 0) r w = _ from (by simp [kRoM, c_13]; done))).symm
    rw [eR5] at hP hD
    exact hend _ _ _ _ _ _ _ (M 9, M 10) hP hD hS (Nat.le_of_ble_eq_true rfl) (Nat.le_of_ble_eq_true rfl) (by first | (intro hk9; rfl; done) | (intro hk9; simp [kRoM, c_13] at hk9; done)) dX6_role_21

abbrev rm_X6_ofPlayer : Room := { frames := 4, cells := 0, slots := 0, locals := 96 }
set_option maxHeartbeats 4000000 in
set_option maxRecDepth 100000 in
theorem c_X6_ofPlayer (l : Launch) (K : KX) (h : Nat) (a : Nat → Nat) (M : HV) (p : Nat) (hp : p < 10) (w : Nat) (hw : w < 6) (R : Nat) (hR0 : M 0 3 = nI R) (hR0b : R ≤ 6) (P : Nat) (hP0 : M 0 4 = nI P) (hP0b : P ≤ 10) (hok : mOK (M 0) R P) (sz : Nat) : Met l yX6_ofPlayer wsX6_ofPlayer rm_X6_ofPlayer (va_Pc [.ref h, .int (nI p), .int (nI w)] (xPre K (mw K h a M) sz)) (va_Qi (fun (r9 : Int32) (u9 : (Nat → Int32) × (Nat → Int32)) => r9 = mPl (M 0) R P p w) (fun u9 t => xPost K (va_A (mw K h a M) sz) (mw K h a (hrow (hrow M 9 u9.1) 10 u9.2)) t) (va_A (mw K h a M) sz)) 0 0 (va_A (mw K h a M) sz) := by
  refine xw_starti (cc := cX6_ofPlayer) (maxL := 5) (by decide) rfl (Nat.le_of_ble_eq_true rfl) ?_
  intro p9 e9 s9 m9 below9 meth9 c9 H locs ls A av9 Q9 hx hb hlocks hml hname hts hown hK hP hD hS hA hsz hend hl
  have hown : s9.vm.findClass RX6 = some m9.cls := hown
  have hl : lv_has ls 5 [(0, .ref h), (1, .int (nI p)), (2, .int (nI w))] := hl
  have hi6 : ∀ w ∈ u_ws RX6 TX6 14, w ∈ wsX6_ofPlayer := by decide +kernel
  have lk7 := hts (.fieldLink RX6 7 "StandInsModel" "now" "[I") (by decide +kernel)
  have lk32 := hts (.fieldLink RX6 32 "StandInsModel" "cast" "[I") (by decide +kernel)
  refine lv_iload_n hx hb dX6_ofPlayer_0 rfl (lv_at hl 2 rfl) ?_
  refine lv_iconst (v := (5 : Int32)) hx hb dX6_ofPlayer_1 (by decide) ?_
  refine xn_icmp_ne (tgt := 56) hx hb w 5 rfl rfl (by omega) (by decide) dX6_ofPlayer_2 (by decide) (fun c_2 => ?_) (fun c_2 => ?_)
  · skip
    refine lv_iload_n hx hb dX6_ofPlayer_56 rfl (lv_at hl 2 rfl) ?_
    refine lv_iconst (v := (2 : Int32)) hx hb dX6_ofPlayer_57 (by decide) ?_
    refine xn_icmp_ne (tgt := 100) hx hb w 2 rfl rfl (by omega) (by decide) dX6_ofPlayer_58 (by decide) (fun c_58 => ?_) (fun c_58 => ?_)
    · skip
      refine lv_iload_n hx hb dX6_ofPlayer_100 rfl (lv_at hl 2 rfl) ?_
      refine xn_if_ne (tgt := 116) hx hb w rfl (by omega) dX6_ofPlayer_101 (by decide) (fun c_101 => ?_) (fun c_101 => ?_)
      · skip
        refine lv_iload_n hx hb dX6_ofPlayer_116 rfl (lv_at hl 2 rfl) ?_
        refine lv_iconst (v := (1 : Int32)) hx hb dX6_ofPlayer_117 (by decide) ?_
        refine xn_icmp_ne (tgt := 133) hx hb w 1 rfl rfl (by omega) (by decide) dX6_ofPlayer_118 (by decide) (fun c_118 => ?_) (fun c_118 => ?_)
        · skip
          refine lv_iload_n hx hb dX6_ofPlayer_133 rfl (lv_at hl 2 rfl) ?_
          refine lv_iconst (v := (3 : Int32)) hx hb dX6_ofPlayer_134 (by decide) ?_
          refine xn_icmp_ne (tgt := 157) hx hb w 3 rfl rfl (by omega) (by decide) dX6_ofPlayer_135 (by decide) (fun c_135 => ?_) (fun c_135 => ?_)
          · skip
            refine lv_aload_n hx hb dX6_ofPlayer_157 rfl (lv_at hl 0 rfl) ?_
            refine va_get (ci := 6) (v := .ref (a 0)) (C := RX6) (T := TX6) (N := 14) hx hb hts hi6 hown hK hP 0 rfl rfl 0 (by decide) lk7 (fun _ h9 => h9) rfl dX6_ofPlayer_158 ?_
            refine lv_bipush (v := (60 : Int32)) hx hb dX6_ofPlayer_161 (by decide) ?_
            refine lv_iload_n hx hb dX6_ofPlayer_163 rfl (lv_at hl 1 rfl) ?_
            refine lv_iadd hx hb dX6_ofPlayer_164 ?_
            refine xi_ld hx hb hK hP 1 (f := M 0) rfl (60 + p) (nn_add rfl rfl) (by omega) (by decide) dX6_ofPlayer_165 ?_
            exact hend _ _ _ _ _ _ _ (M 9, M 10) hP hD hS (Nat.le_of_ble_eq_true rfl) (Nat.le_of_ble_eq_true rfl) (by (unfold mPl; (repeat' split) <;> first | rfl | omega | (rename_i z9; exact absurd z9 (Int32.not_lt.mpr c_76)) | (rename_i z9; exact absurd c_76n z9) | exact (bI_t c_146).symm | exact (bI_f c_146).symm)) dX6_ofPlayer_166
          · skip
            refine lv_aload_n hx hb dX6_ofPlayer_138 rfl (lv_at hl 0 rfl) ?_
            refine va_get (ci := 6) (v := .ref (a 0)) (C := RX6) (T := TX6) (N := 14) hx hb hts hi6 hown hK hP 0 rfl rfl 0 (by decide) lk7 (fun _ h9 => h9) rfl dX6_ofPlayer_139 ?_
            refine lv_iload_n hx hb dX6_ofPlayer_142 rfl (lv_at hl 1 rfl) ?_
            have hPc := P_sub (ws' := [((a 0), aI K 190 (M 0))]) hP [1] rfl
            refine xr_S (As := [.ref (a 0), .int (nI p)]) (rest := []) ⟨hx, hb, hml, hown, hts⟩ (c_X6_isFree l K (a 0) (M 0) p (by omega)) (va_cwS 2 hts gX6_ofPlayer_X6_isFree rfl rfl rfl (by decide +kernel) ⟨Nat.le_of_ble_eq_true rfl, Nat.le_of_ble_eq_true rfl⟩) hK hPc rfl hl.1 rfl (Nat.le_of_ble_eq_true rfl) (Nat.le_of_ble_eq_true rfl) (Nat.le_of_ble_eq_true rfl) dX6_ofPlayer_143 ?_
            refine xb_if_eq (tgt := 153) hx hb dX6_ofPlayer_146 (by decide) (fun c_146 => ?_) (fun c_146 => ?_)
            · skip
              refine lv_iconst (v := (0 : Int32)) hx hb dX6_ofPlayer_153 (by decide) ?_
              refine lv_goto (tgt := 166) hx hb dX6_ofPlayer_154 (by decide) ?_
              exact hend _ _ _ _ _ _ _ (M 9, M 10) hP hD hS (Nat.le_of_ble_eq_true rfl) (Nat.le_of_ble_eq_true rfl) (by (unfold mPl; (repeat' split) <;> first | rfl | omega | (rename_i z9; exact absurd z9 (Int32.not_lt.mpr c_76)) | (rename_i z9; exact absurd c_76n z9) | exact (bI_t c_146).symm | exact (bI_f c_146).symm)) dX6_ofPlayer_166
            · skip
              refine lv_iconst (v := (1 : Int32)) hx hb dX6_ofPlayer_149 (by decide) ?_
              refine lv_goto (tgt := 166) hx hb dX6_ofPlayer_150 (by decide) ?_
              exact hend _ _ _ _ _ _ _ (M 9, M 10) hP hD hS (Nat.le_of_ble_eq_true rfl) (Nat.le_of_ble_eq_true rfl) (by (unfold mPl; (repeat' split) <;> first | rfl | omega | (rename_i z9; exact absurd z9 (Int32.not_lt.mpr c_76)) | (rename_i z9; exact absurd c_76n z9) | exact (bI_t c_146).symm | exact (bI_f c_146).symm)) dX6_ofPlayer_166
        · skip
          refine lv_aload_n hx hb dX6_ofPlayer_121 rfl (lv_at hl 0 rfl) ?_
          refine va_get (ci := 6) (v := .ref (a 0)) (C := RX6) (T := TX6) (N := 14) hx hb hts hi6 hown hK hP 0 rfl rfl 0 (by decide) lk7 (fun _ h9 => h9) rfl dX6_ofPlayer_122 ?_
          refine lv_bipush (v := (40 : Int32)) hx hb dX6_ofPlayer_125 (by decide) ?_
          refine lv_iload_n hx hb dX6_ofPlayer_127 rfl (lv_at hl 1 rfl) ?_
          refine lv_iadd hx hb dX6_ofPlayer_128 ?_
          refine xi_ld hx hb hK hP 1 (f := M 0) rfl (40 + p) (nn_add rfl rfl) (by omega) (by decide) dX6_ofPlayer_129 ?_
          refine lv_goto (tgt := 166) hx hb dX6_ofPlayer_130 (by decide) ?_
          exact hend _ _ _ _ _ _ _ (M 9, M 10) hP hD hS (Nat.le_of_ble_eq_true rfl) (Nat.le_of_ble_eq_true rfl) (by (unfold mPl; (repeat' split) <;> first | rfl | omega | (rename_i z9; exact absurd z9 (Int32.not_lt.mpr c_76)) | (rename_i z9; exact absurd c_76n z9) | exact (bI_t c_146).symm | exact (bI_f c_146).symm)) dX6_ofPlayer_166
      · skip
        refine lv_aload_n hx hb dX6_ofPlayer_104 rfl (lv_at hl 0 rfl) ?_
        refine va_get (ci := 6) (v := .ref (a 0)) (C := RX6) (T := TX6) (N := 14) hx hb hts hi6 hown hK hP 0 rfl rfl 0 (by decide) lk7 (fun _ h9 => h9) rfl dX6_ofPlayer_105 ?_
        refine lv_bipush (v := (30 : Int32)) hx hb dX6_ofPlayer_108 (by decide) ?_
        refine lv_iload_n hx hb dX6_ofPlayer_110 rfl (lv_at hl 1 rfl) ?_
        refine lv_iadd hx hb dX6_ofPlayer_111 ?_
        refine xi_ld hx hb hK hP 1 (f := M 0) rfl (30 + p) (nn_add rfl rfl) (by omega) (by decide) dX6_ofPlayer_112 ?_
        refine lv_goto (tgt := 166) hx hb dX6_ofPlayer_113 (by decide) ?_
        exact hend _ _ _ _ _ _ _ (M 9, M 10) hP hD hS (Nat.le_of_ble_eq_true rfl) (Nat.le_of_ble_eq_true rfl) (by (unfold mPl; (repeat' split) <;> first | rfl | omega | (rename_i z9; exact absurd z9 (Int32.not_lt.mpr c_76)) | (rename_i z9; exact absurd c_76n z9) | exact (bI_t c_146).symm | exact (bI_f c_146).symm)) dX6_ofPlayer_166
    · skip
      refine lv_aload_n hx hb dX6_ofPlayer_61 rfl (lv_at hl 0 rfl) ?_
      refine va_get (ci := 6) (v := .ref (a 0)) (C := RX6) (T := TX6) (N := 14) hx hb hts hi6 hown hK hP 0 rfl rfl 0 (by decide) lk7 (fun _ h9 => h9) rfl dX6_ofPlayer_62 ?_
      refine lv_bipush (v := (50 : Int32)) hx hb dX6_ofPlayer_65 (by decide) ?_
      refine lv_iload_n hx hb dX6_ofPlayer_67 rfl (lv_at hl 1 rfl) ?_
      refine lv_iadd hx hb dX6_ofPlayer_68 ?_
      refine xi_ld hx hb hK hP 1 (f := M 0) rfl (50 + p) (nn_add rfl rfl) (by omega) (by decide) dX6_ofPlayer_69 ?_
      refine lv_aload_n hx hb dX6_ofPlayer_70 rfl (lv_at hl 0 rfl) ?_
      refine va_get (ci := 6) (v := .ref (a 0)) (C := RX6) (T := TX6) (N := 14) hx hb hts hi6 hown hK hP 0 rfl rfl 0 (by decide) lk7 (fun _ h9 => h9) rfl dX6_ofPlayer_71 ?_
      refine lv_iconst (v := (0 : Int32)) hx hb dX6_ofPlayer_74 (by decide) ?_
      refine xi_ld hx hb hK hP 1 (f := M 0) rfl 0 rfl (by omega) (by decide) dX6_ofPlayer_75 ?_
      refine lv_icmp_le (tgt := 98) hx hb dX6_ofPlayer_76 (by decide) (fun c_76 => ?_) (fun c_76 => ?_)
      · skip
        have c_76n := Int32.not_lt.mpr c_76
        refine lv_iconst (v := (0 : Int32)) hx hb dX6_ofPlayer_98 (by decide) ?_
        exact hend _ _ _ _ _ _ _ (M 9, M 10) hP hD hS (Nat.le_of_ble_eq_true rfl) (Nat.le_of_ble_eq_true rfl) (by (unfold mPl; (repeat' split) <;> first | rfl | omega | (rename_i z9; exact absurd z9 (Int32.not_lt.mpr c_76)) | (rename_i z9; exact absurd c_76n z9) | exact (bI_t c_146).symm | exact (bI_f c_146).symm)) dX6_ofPlayer_99
      · skip
        have c_76n := Int32.not_le.mp c_76
        refine lv_aload_n hx hb dX6_ofPlayer_79 rfl (lv_at hl 0 rfl) ?_
        refine va_get (ci := 6) (v := .ref (a 0)) (C := RX6) (T := TX6) (N := 14) hx hb hts hi6 hown hK hP 0 rfl rfl 0 (by decide) lk7 (fun _ h9 => h9) rfl dX6_ofPlayer_80 ?_
        refine lv_bipush (v := (50 : Int32)) hx hb dX6_ofPlayer_83 (by decide) ?_
        refine lv_iload_n hx hb dX6_ofPlayer_85 rfl (lv_at hl 1 rfl) ?_
        refine lv_iadd hx hb dX6_ofPlayer_86 ?_
        refine xi_ld hx hb hK hP 1 (f := M 0) rfl (50 + p) (nn_add rfl rfl) (by omega) (by decide) dX6_ofPlayer_87 ?_
        refine lv_aload_n hx hb dX6_ofPlayer_88 rfl (lv_at hl 0 rfl) ?_
        refine va_get (ci := 6) (v := .ref (a 0)) (C := RX6) (T := TX6) (N := 14) hx hb hts hi6 hown hK hP 0 rfl rfl 0 (by decide) lk7 (fun _ h9 => h9) rfl dX6_ofPlayer_89 ?_
        refine lv_iconst (v := (0 : Int32)) hx hb dX6_ofPlayer_92 (by decide) ?_
        refine xi_ld hx hb hK hP 1 (f := M 0) rfl 0 rfl (by omega) (by decide) dX6_ofPlayer_93 ?_
        refine lv_isub hx hb dX6_ofPlayer_94 ?_
        refine lv_goto (tgt := 99) hx hb dX6_ofPlayer_95 (by decide) ?_
        exact hend _ _ _ _ _ _ _ (M 9, M 10) hP hD hS (Nat.le_of_ble_eq_true rfl) (Nat.le_of_ble_eq_true rfl) (by (unfold mPl; (repeat' split) <;> first | rfl | omega | (rename_i z9; exact absurd z9 (Int32.not_lt.mpr c_76)) | (rename_i z9; exact absurd c_76n z9) | exact (bI_t c_146).symm | exact (bI_f c_146).symm)) dX6_ofPlayer_99
  · skip
    refine lv_aload_n hx hb dX6_ofPlayer_5 rfl (lv_at hl 0 rfl) ?_
    refine lv_aload_n hx hb dX6_ofPlayer_6 rfl (lv_at hl 0 rfl) ?_
    refine va_get (ci := 6) (v := .ref (a 0)) (C := RX6) (T := TX6) (N := 14) hx hb hts hi6 hown hK hP 0 rfl rfl 0 (by decide) lk7 (fun _ h9 => h9) rfl dX6_ofPlayer_7 ?_
    refine xw_Vi (As := [.ref (a 0)]) (rest := []) (wc := mw K h a M) (wr := (List.filterMap (fun i => (mw K h a M : va_W)[i]?) ([] : List Nat))) ⟨hx, hb, hml, hown, hts⟩ (c_X6_casts_n l K h a M R hR0 (by omega) P hP0 (by omega) (by first | assumption | omega) H.size) (cwV 1 hts gX6_ofPlayer_X6_casts rfl rfl rfl (by decide +kernel) ⟨Nat.le_of_ble_eq_true rfl, Nat.le_of_ble_eq_true rfl⟩) hK hP hD hS hA [0, 1, 2, 3, 4, 5, 6, 7, 8, 9] [] [0, 1, 2, 3, 4, 5, 6, 7, 8, 9] rfl rfl rfl (fun E10 => mw K h a (hrow (hrow M 9 E10) 10 (mcR (M 0) R P (M 10) 6))) (fun _ => rfl) 0 6 rfl rfl rfl rfl hl.1 rfl (Nat.le_of_ble_eq_true rfl) (Nat.le_of_ble_eq_true rfl) (Nat.le_of_ble_eq_true rfl) dX6_ofPlayer_10 (fun r10 E10 H locs hq10 hP hD hS => ?_)
    have hP : va_P K.1 vwCl (mw K h a (hrow (hrow M 9 E10) 10 (mcR (M 0) R P (M 10) 6))) H := hP
    have hD : va_D A (mw K h a (hrow (hrow M 9 E10) 10 (mcR (M 0) R P (M 10) 6))) := hD
    subst hq10
    refine lv_pop hx hb dX6_ofPlayer_13 rfl ?_
    refine lv_iconst (v := (-1 : Int32)) hx hb dX6_ofPlayer_14 (by decide) ?_
    refine lv_istore_n (lv' := [(3, .int (-1 : Int32)), (0, .ref h), (1, .int (nI p)), (2, .int (nI w))]) hx hb dX6_ofPlayer_15 rfl hl (by decide) rfl (fun ls hl => ?_)
    refine lv_iconst (v := (0 : Int32)) hx hb dX6_ofPlayer_16 (by decide) ?_
    refine lv_istore (lv' := [(4, .int (0 : Int32)), (3, .int (-1 : Int32)), (0, .ref h), (1, .int (nI p)), (2, .int (nI w))]) hx hb dX6_ofPlayer_17 hl (by decide) rfl (fun ls hl => ?_)
    have lp19 : ∀ (n9 : Nat) (k : Nat) (H : Heap) (locs : List Loc) (ls : Array Slot), R - k < n9 → (k ≤ R) → va_P K.1 vwCl (mw K h a (hrow (hrow M 9 E10) 10 (mcR (M 0) R P (M 10) 6))) H → va_D A (mw K h a (hrow (hrow M 9 E10) 10 (mcR (M 0) R P (M 10) 6))) → va_S A s9.heap H locs → lv_has ls 5 [(0, .ref h), (1, .int (nI p)), (2, .int (nI w)), (3, .int (lstM (M 0) R P (nI p) k)), (4, .int (nI k))] → W p9 l e9 rm_X6_ofPlayer s9 m9 av9 below9 meth9 c9 H locs 0 0 Q9 (F0 m9 19 ls []) := by
      intro n9
      induction n9 with
      | zero => intro k H locs ls hmu hk hP hD hS hl; exact absurd hmu (Nat.not_lt_zero _)
      | succ n9 ih19 =>
        intro k H locs ls hmu hk hP hD hS hl
        refine lv_iload hx hb dX6_ofPlayer_19 (lv_at hl 4 rfl) ?_
        refine lv_aload_n hx hb dX6_ofPlayer_21 rfl (lv_at hl 0 rfl) ?_
        refine va_get (ci := 6) (v := .ref (a 0)) (C := RX6) (T := TX6) (N := 14) hx hb hts hi6 hown hK hP 0 rfl rfl 0 (by decide) lk7 (fun _ h9 => h9) rfl dX6_ofPlayer_22 ?_
        refine lv_iconst (v := (3 : Int32)) hx hb dX6_ofPlayer_25 (by decide) ?_
        refine xi_ld hx hb hK hP 1 (f := M 0) rfl 3 rfl (by omega) (by decide) dX6_ofPlayer_26 ?_
        refine xn_icmp_ge (tgt := 54) hx hb k R rfl hR0 (by omega) (by omega) dX6_ofPlayer_27 (by decide) (fun c_27 => ?_) (fun c_27 => ?_)
        · skip
          have hk9 : R = k := (show k = R from by omega).symm
          subst hk9
          refine lv_iload_n hx hb dX6_ofPlayer_54 rfl (lv_at hl 3 rfl) ?_
          exact hend _ _ _ _ _ _ _ (E10, mcR (M 0) R P (M 10) 6) hP hD hS (Nat.le_of_ble_eq_true rfl) (Nat.le_of_ble_eq_true rfl) (by (unfold mPl; (repeat' split) <;> first | rfl | omega | (rename_i z9; exact absurd z9 (Int32.not_lt.mpr c_76)) | (rename_i z9; exact absurd c_76n z9) | exact (bI_t c_146).symm | exact (bI_f c_146).symm)) dX6_ofPlayer_55
        · skip
          refine lv_aload_n hx hb dX6_ofPlayer_30 rfl (lv_at hl 0 rfl) ?_
          refine va_get (ci := 6) (v := .ref (a 10)) (C := RX6) (T := TX6) (N := 14) hx hb hts hi6 hown hK hP 0 rfl rfl 10 (by decide) lk32 (fun _ h9 => h9) rfl dX6_ofPlayer_31 ?_
          refine lv_iload hx hb dX6_ofPlayer_34 (lv_at hl 4 rfl) ?_
          refine xi_ld hx hb hK hP 8 (f := (mcR (M 0) R P (M 10) 6)) rfl k rfl (by omega) (by decide) dX6_ofPlayer_36 ?_
          refine lv_iload_n hx hb dX6_ofPlayer_37 rfl (lv_at hl 1 rfl) ?_
          refine lv_icmp_ne (tgt := 46) hx hb dX6_ofPlayer_38 (by decide) (fun c_38 => ?_) (fun c_38 => ?_)
          · skip
            refine lv_iload_n hx hb dX6_ofPlayer_46 rfl (lv_at hl 3 rfl) ?_
            refine lv_istore_n (lv' := [(3, .int (lstM (M 0) R P (nI p) k)), (0, .ref h), (1, .int (nI p)), (2, .int (nI w)), (4, .int (nI k))]) hx hb dX6_ofPlayer_47 rfl hl (by decide) rfl (fun ls hl => ?_)
            refine lv_iinc (v := nI (k + 1)) (lv' := [(4, .int (nI (k + 1))), (3, .int (lstM (M 0) R P (nI p) k)), (0, .ref h), (1, .int (nI p)), (2, .int (nI w))]) hx hb dX6_ofPlayer_48 hl (k := 4) rfl (nI_1 _) (by decide) rfl (fun ls hl => ?_)
            refine lv_goto (tgt := 19) hx hb dX6_ofPlayer_51 (by decide) ?_
            exact ih19 (k + 1) _ _ _ (by omega) (by first | omega | assumption | first | rfl | (simp [c_2, c_27, c_38]; done) | omega) hP hD hS (lv_cons (lv_at hl 2 rfl) (lv_cons (lv_at hl 3 rfl) (lv_cons (lv_at hl 4 rfl) (lv_cons (lv_is (lv_at hl 1 rfl) (show lstM (M 0) R P (nI p) k = lstM (M 0) R P (nI p) (k + 1) by (rw [lstM]; first | exact (if_pos ((mcR_at (by omega)).symm.trans c_38)).symm | exact (if_neg (fun z => c_38 ((mcR_at (by omega)).trans z))).symm))) (lv_cons (lv_at hl 0 rfl) (lv_nil hl))))))
          · skip
            refine lv_iload hx hb dX6_ofPlayer_41 (lv_at hl 4 rfl) ?_
            refine lv_goto (tgt := 47) hx hb dX6_ofPlayer_43 (by decide) ?_
            refine lv_istore_n (lv' := [(3, .int (nI k)), (0, .ref h), (1, .int (nI p)), (2, .int (nI w)), (4, .int (nI k))]) hx hb dX6_ofPlayer_47 rfl hl (by decide) rfl (fun ls hl => ?_)
            refine lv_iinc (v := nI (k + 1)) (lv' := [(4, .int (nI (k + 1))), (3, .int (nI k)), (0, .ref h), (1, .int (nI p)), (2, .int (nI w))]) hx hb dX6_ofPlayer_48 hl (k := 4) rfl (nI_1 _) (by decide) rfl (fun ls hl => ?_)
            refine lv_goto (tgt := 19) hx hb dX6_ofPlayer_51 (by decide) ?_
            exact ih19 (k + 1) _ _ _ (by omega) (by first | omega | assumption | first | rfl | (simp [c_2, c_27, c_38]; done) | omega) hP hD hS (lv_cons (lv_at hl 2 rfl) (lv_cons (lv_at hl 3 rfl) (lv_cons (lv_at hl 4 rfl) (lv_cons (lv_is (lv_at hl 1 rfl) (show nI k = lstM (M 0) R P (nI p) (k + 1) by (rw [lstM]; first | exact (if_pos ((mcR_at (by omega)).symm.trans c_38)).symm | exact (if_neg (fun z => c_38 ((mcR_at (by omega)).trans z))).symm))) (lv_cons (lv_at hl 0 rfl) (lv_nil hl))))))
    exact lp19 _ 0 _ _ _ (Nat.lt_succ_self _) (by first | omega | assumption | first | rfl | (simp [c_2]; done) | omega) hP hD hS (lv_cons (lv_at hl 2 rfl) (lv_cons (lv_at hl 3 rfl) (lv_cons (lv_at hl 4 rfl) (lv_cons (lv_is (lv_at hl 1 rfl) (show (-1 : Int32) = lstM (M 0) R P (nI p) 0 by rfl)) (lv_cons (lv_is (lv_at hl 0 rfl) (show (0 : Int32) = nI 0 by rfl)) (lv_nil hl))))))

abbrev rm_X6_player : Room := { frames := 5, cells := 0, slots := 0, locals := 120 }
set_option maxHeartbeats 4000000 in
set_option maxRecDepth 100000 in
theorem c_X6_player (l : Launch) (K : KX) (h : Nat) (a : Nat → Nat) (M : HV) (p : Int32) (w : Int32) (R : Nat) (hR0 : M 0 3 = nI R) (hR0b : R ≤ 6) (P : Nat) (hP0 : M 0 4 = nI P) (hP0b : P ≤ 10) (hok : mOK (M 0) R P) (sz : Nat) : Met l yX6_player wsX6_player rm_X6_player (va_Pc [.ref h, .int p, .int w] (xPre K (mw K h a M) sz)) (va_Qi (fun (r9 : Int32) (u9 : (Nat → Int32) × (Nat → Int32)) => kPlM (M 0) p w = 0 → r9 = mPl (M 0) R P (cN p) (cN w)) (fun u9 t => xPost K (va_A (mw K h a M) sz) (mw K h a (hput (hrow (hrow M 9 u9.1) 10 u9.2) 8 (nI (kPlM (M 0) p w)))) t) (va_A (mw K h a M) sz)) 0 0 (va_A (mw K h a M) sz) := by
  refine xw_starti (cc := cX6_player) (maxL := 3) (by decide) rfl (Nat.le_of_ble_eq_true rfl) ?_
  intro p9 e9 s9 m9 below9 meth9 c9 H locs ls A av9 Q9 hx hb hlocks hml hname hts hown hK hP hD hS hA hsz hend hl
  have hown : s9.vm.findClass RX6 = some m9.cls := hown
  have hl : lv_has ls 3 [(0, .ref h), (1, .int p), (2, .int w)] := hl
  have hi6 : ∀ w ∈ u_ws RX6 TX6 14, w ∈ wsX6_player := by decide +kernel
  have lk42 := hts (.fieldLink RX6 42 "StandInsModel" "thrown" "I") (by decide +kernel)
  have lk7 := hts (.fieldLink RX6 7 "StandInsModel" "now" "[I") (by decide +kernel)
  refine lv_aload_n hx hb dX6_player_0 rfl (lv_at hl 0 rfl) ?_
  refine lv_iconst (v := (0 : Int32)) hx hb dX6_player_1 (by decide) ?_
  refine va_put (ci := 6) (v := .int (0 : Int32)) (ty := .int) (C := RX6) (T := TX6) (N := 14) hx hb hts hi6 tyX6 tyX6_ok nmX6 hown hK hP hD hS 0 rfl rfl 8 (by decide) lk42 (fun _ h9 => h9) rfl (by decide +kernel) rfl rfl (Nat.le_of_ble_eq_true rfl) dX6_player_2 (fun H locs hP hD hS => ?_)
  have hP : va_P K.1 vwCl (mw K h a (hput M 8 (0 : Int32))) H := hP
  have hD : va_D A (mw K h a (hput M 8 (0 : Int32))) := hD
  refine lv_aload_n hx hb dX6_player_5 rfl (lv_at hl 0 rfl) ?_
  refine va_get (ci := 6) (v := .ref (a 0)) (C := RX6) (T := TX6) (N := 14) hx hb hts hi6 hown hK hP 0 rfl rfl 0 (by decide) lk7 (fun _ h9 => h9) rfl dX6_player_6 ?_
  refine lv_iload_n hx hb dX6_player_9 rfl (lv_at hl 1 rfl) ?_
  have hPc := P_sub (ws' := [((a 0), aI K 190 (M 0))]) hP [1] rfl
  refine xr_S (As := [.ref (a 0), .int p]) (rest := []) ⟨hx, hb, hml, hown, hts⟩ (c_X6_isPlayer l K (a 0) (M 0) p P hP0 (by omega)) (va_cwS 2 hts gX6_player_X6_isPlayer rfl rfl rfl (by decide +kernel) ⟨Nat.le_of_ble_eq_true rfl, Nat.le_of_ble_eq_true rfl⟩) hK hPc rfl hl.1 rfl (Nat.le_of_ble_eq_true rfl) (Nat.le_of_ble_eq_true rfl) (Nat.le_of_ble_eq_true rfl) dX6_player_10 ?_
  refine xb_if_ne (tgt := 22) hx hb dX6_player_13 (by decide) (fun c_13 => ?_) (fun c_13 => ?_)
  · skip
    have hn1 := idx_cN hP0 (by omega) c_13
    refine lv_iload_n hx hb dX6_player_22 rfl (lv_at hl 2 rfl) ?_
    refine lv_iconst (v := (0 : Int32)) hx hb dX6_player_23 (by decide) ?_
    refine lv_iconst (v := (5 : Int32)) hx hb dX6_player_24 (by decide) ?_
    have hPc := P_sub (ws' := []) hP [] rfl
    refine xr_S (As := [.int w, .int (0 : Int32), .int (5 : Int32)]) (rest := []) ⟨hx, hb, hml, hown, hts⟩ (c_X6_in l K w (0 : Int32) (5 : Int32)) (va_cwS 3 hts gX6_player_X6_in rfl rfl rfl (by decide +kernel) ⟨Nat.le_of_ble_eq_true rfl, Nat.le_of_ble_eq_true rfl⟩) hK hPc rfl hl.1 rfl (Nat.le_of_ble_eq_true rfl) (Nat.le_of_ble_eq_true rfl) (Nat.le_of_ble_eq_true rfl) dX6_player_25 ?_
    refine xb_if_eq (tgt := 40) hx hb dX6_player_28 (by decide) (fun c_28 => ?_) (fun c_28 => ?_)
    · skip
      refine lv_aload_n hx hb dX6_player_40 rfl (lv_at hl 0 rfl) ?_
      refine lv_iconst (v := (2 : Int32)) hx hb dX6_player_41 (by decide) ?_
      refine xw_Vi (As := [.int (2 : Int32)]) (rest := []) (wc := mw K h a (hput M 8 (0 : Int32))) (wr := (List.filterMap (fun i => (mw K h a (hput M 8 (0 : Int32)) : va_W)[i]?) ([] : List Nat))) ⟨hx, hb, hml, hown, hts⟩ (c_X6_fails l K h a (hput M 8 (0 : Int32)) (2 : Int32) H.size) (cwV 1 hts gX6_player_X6_fails rfl rfl rfl (by decide +kernel) ⟨Nat.le_of_ble_eq_true rfl, Nat.le_of_ble_eq_true rfl⟩) hK hP hD hS hA [0, 1, 2, 3, 4, 5, 6, 7, 8, 9] [] [0, 1, 2, 3, 4, 5, 6, 7, 8, 9] rfl rfl rfl (fun _u => mw K h a (hput M 8 (2 : Int32))) (fun _ => rfl) 0 6 rfl rfl rfl rfl hl.1 rfl (Nat.le_of_ble_eq_true rfl) (Nat.le_of_ble_eq_true rfl) (Nat.le_of_ble_eq_true rfl) dX6_player_42 (fun r42 _ H locs hq42 hP hD hS => ?_)
      have hP : va_P K.1 vwCl (mw K h a (hput M 8 (2 : Int32))) H := hP
      have hD : va_D A (mw K h a (hput M 8 (2 : Int32))) := hD
      subst hq42
      have eR2 : (2 : Int32) = nI (kPlM (M 0) p w) := by exact (congrArg nI (show kPlM (M 0) p w = _ from (by simp [kPlM, c_13, c_28]; done))).symm
      rw [eR2] at hP hD
      exact hend _ _ _ _ _ _ _ (M 9, M 10) hP hD hS (Nat.le_of_ble_eq_true rfl) (Nat.le_of_ble_eq_true rfl) (by first | (intro hk9; rfl; done) | (intro hk9; simp [kPlM, c_13, c_28] at hk9; done)) dX6_player_45
    · skip
      have hn3 := rng_cN (lo := 0) (hi := 5) c_28 (by decide)
      refine lv_aload_n hx hb dX6_player_31 rfl (lv_at hl 0 rfl) ?_
      refine lv_iload_n hx hb dX6_player_32 rfl (lv_at hl 1 rfl) ?_
      refine lv_iload_n hx hb dX6_player_33 rfl (lv_at hl 2 rfl) ?_
      rw [show p = nI (cN p) from hn1.1]
      rw [show w = nI (cN w) from hn3.1]
      refine xw_Vi (As := [.int (nI (cN p)), .int (nI (cN w))]) (rest := []) (wc := mw K h a (hput M 8 (0 : Int32))) (wr := (List.filterMap (fun i => (mw K h a (hput M 8 (0 : Int32)) : va_W)[i]?) ([] : List Nat))) ⟨hx, hb, hml, hown, hts⟩ (c_X6_ofPlayer l K h a (hput M 8 (0 : Int32)) (cN p) (by omega) (cN w) (by omega) R hR0 (by omega) P hP0 (by omega) (by first | assumption | omega) H.size) (cwV 2 hts gX6_player_X6_ofPlayer rfl rfl rfl (by decide +kernel) ⟨Nat.le_of_ble_eq_true rfl, Nat.le_of_ble_eq_true rfl⟩) hK hP hD hS hA [0, 1, 2, 3, 4, 5, 6, 7, 8, 9] [] [0, 1, 2, 3, 4, 5, 6, 7, 8, 9] rfl rfl rfl (fun D34 => mw K h a (hrow (hrow (hput M 8 (0 : Int32)) 9 D34.1) 10 D34.2)) (fun _ => rfl) 0 6 rfl rfl rfl rfl hl.1 rfl (Nat.le_of_ble_eq_true rfl) (Nat.le_of_ble_eq_true rfl) (Nat.le_of_ble_eq_true rfl) dX6_player_34 (fun r34 D34 H locs hq34 hP hD hS => ?_)
      have hP : va_P K.1 vwCl (mw K h a (hrow (hrow (hput M 8 (0 : Int32)) 9 D34.1) 10 D34.2)) H := hP
      have hD : va_D A (mw K h a (hrow (hrow (hput M 8 (0 : Int32)) 9 D34.1) 10 D34.2)) := hD
      subst hq34
      refine lv_goto (tgt := 45) hx hb dX6_player_37 (by decide) ?_
      have eR4 : (0 : Int32) = nI (kPlM (M 0) p w) := by exact (congrArg nI (show kPlM (M 0) p w = _ from (by simp [kPlM, c_13, c_28]; done))).symm
      rw [eR4] at hP hD
      exact hend _ _ _ _ _ _ _ (D34.1, D34.2) hP hD hS (Nat.le_of_ble_eq_true rfl) (Nat.le_of_ble_eq_true rfl) (by first | (intro hk9; rfl; done) | (intro hk9; simp [kPlM, c_13, c_28] at hk9; done)) dX6_player_45
  · skip
    refine lv_aload_n hx hb dX6_player_16 rfl (lv_at hl 0 rfl) ?_
    refine lv_iconst (v := (1 : Int32)) hx hb dX6_player_17 (by decide) ?_
    refine xw_Vi (As := [.int (1 : Int32)]) (rest := []) (wc := mw K h a (hput M 8 (0 : Int32))) (wr := (List.filterMap (fun i => (mw K h a (hput M 8 (0 : Int32)) : va_W)[i]?) ([] : List Nat))) ⟨hx, hb, hml, hown, hts⟩ (c_X6_fails l K h a (hput M 8 (0 : Int32)) (1 : Int32) H.size) (cwV 1 hts gX6_player_X6_fails rfl rfl rfl (by decide +kernel) ⟨Nat.le_of_ble_eq_true rfl, Nat.le_of_ble_eq_true rfl⟩) hK hP hD hS hA [0, 1, 2, 3, 4, 5, 6, 7, 8, 9] [] [0, 1, 2, 3, 4, 5, 6, 7, 8, 9] rfl rfl rfl (fun _u => mw K h a (hput M 8 (1 : Int32))) (fun _ => rfl) 0 6 rfl rfl rfl rfl hl.1 rfl (Nat.le_of_ble_eq_true rfl) (Nat.le_of_ble_eq_true rfl) (Nat.le_of_ble_eq_true rfl) dX6_player_18 (fun r18 _ H locs hq18 hP hD hS => ?_)
    have hP : va_P K.1 vwCl (mw K h a (hput M 8 (1 : Int32))) H := hP
    have hD : va_D A (mw K h a (hput M 8 (1 : Int32))) := hD
    subst hq18
    have eR5 : (1 : Int32) = nI (kPlM (M 0) p w) := by exact (congrArg nI (show kPlM (M 0) p w = _ from (by simp [kPlM, c_13]; done))).symm
    rw [eR5] at hP hD
    exact hend _ _ _ _ _ _ _ (M 9, M 10) hP hD hS (Nat.le_of_ble_eq_true rfl) (Nat.le_of_ble_eq_true rfl) (by first | (intro hk9; rfl; done) | (intro hk9; simp [kPlM, c_13] at hk9; done)) dX6_player_21

abbrev rm_X6_both : Room := { frames := 2, cells := 0, slots := 0, locals := 45 }
set_option maxHeartbeats 4000000 in
set_option maxRecDepth 100000 in
theorem c_X6_both (l : Launch) (K : KX) (h : Nat) (a : Nat → Nat) (M : HV) (p : Int32) (r : Int32) (w : Int32) (R : Nat) (hR0 : M 0 3 = nI R) (hR0b : R ≤ 6) (P : Nat) (hP0 : M 0 4 = nI P) (hP0b : P ≤ 10) (sz : Nat) : Met l yX6_both wsX6_both rm_X6_both (va_Pc [.ref h, .int p, .int r, .int w] (xPre K (mw K h a M) sz)) (va_Qi (fun (r9 : Int32) (_u : Unit) => kBoM (M 0) p r w = 0 → r9 = mBo (M 0) (cN p) (cN r) (cN w)) (fun _u t => xPost K (va_A (mw K h a M) sz) (mw K h a (hput (M) 8 (nI (kBoM (M 0) p r w)))) t) (va_A (mw K h a M) sz)) 0 0 (va_A (mw K h a M) sz) := by
  refine xw_starti (cc := cX6_both) (maxL := 4) (by decide) rfl (Nat.le_of_ble_eq_true rfl) ?_
  intro p9 e9 s9 m9 below9 meth9 c9 H locs ls A av9 Q9 hx hb hlocks hml hname hts hown hK hP hD hS hA hsz hend hl
  have hown : s9.vm.findClass RX6 = some m9.cls := hown
  have hl : lv_has ls 4 [(0, .ref h), (1, .int p), (2, .int r), (3, .int w)] := hl
  have hi6 : ∀ w ∈ u_ws RX6 TX6 14, w ∈ wsX6_both := by decide +kernel
  have lk42 := hts (.fieldLink RX6 42 "StandInsModel" "thrown" "I") (by decide +kernel)
  have lk7 := hts (.fieldLink RX6 7 "StandInsModel" "now" "[I") (by decide +kernel)
  refine lv_aload_n hx hb dX6_both_0 rfl (lv_at hl 0 rfl) ?_
  refine lv_iconst (v := (0 : Int32)) hx hb dX6_both_1 (by decide) ?_
  refine va_put (ci := 6) (v := .int (0 : Int32)) (ty := .int) (C := RX6) (T := TX6) (N := 14) hx hb hts hi6 tyX6 tyX6_ok nmX6 hown hK hP hD hS 0 rfl rfl 8 (by decide) lk42 (fun _ h9 => h9) rfl (by decide +kernel) rfl rfl (Nat.le_of_ble_eq_true rfl) dX6_both_2 (fun H locs hP hD hS => ?_)
  have hP : va_P K.1 vwCl (mw K h a (hput M 8 (0 : Int32))) H := hP
  have hD : va_D A (mw K h a (hput M 8 (0 : Int32))) := hD
  refine lv_aload_n hx hb dX6_both_5 rfl (lv_at hl 0 rfl) ?_
  refine va_get (ci := 6) (v := .ref (a 0)) (C := RX6) (T := TX6) (N := 14) hx hb hts hi6 hown hK hP 0 rfl rfl 0 (by decide) lk7 (fun _ h9 => h9) rfl dX6_both_6 ?_
  refine lv_iload_n hx hb dX6_both_9 rfl (lv_at hl 1 rfl) ?_
  have hPc := P_sub (ws' := [((a 0), aI K 190 (M 0))]) hP [1] rfl
  refine xr_S (As := [.ref (a 0), .int p]) (rest := []) ⟨hx, hb, hml, hown, hts⟩ (c_X6_isPlayer l K (a 0) (M 0) p P hP0 (by omega)) (va_cwS 2 hts gX6_both_X6_isPlayer rfl rfl rfl (by decide +kernel) ⟨Nat.le_of_ble_eq_true rfl, Nat.le_of_ble_eq_true rfl⟩) hK hPc rfl hl.1 rfl (Nat.le_of_ble_eq_true rfl) (Nat.le_of_ble_eq_true rfl) (Nat.le_of_ble_eq_true rfl) dX6_both_10 ?_
  refine xb_if_eq (tgt := 27) hx hb dX6_both_13 (by decide) (fun c_13 => ?_) (fun c_13 => ?_)
  · skip
    refine lv_aload_n hx hb dX6_both_27 rfl (lv_at hl 0 rfl) ?_
    refine lv_iconst (v := (1 : Int32)) hx hb dX6_both_28 (by decide) ?_
    refine xw_Vi (As := [.int (1 : Int32)]) (rest := []) (wc := mw K h a (hput M 8 (0 : Int32))) (wr := (List.filterMap (fun i => (mw K h a (hput M 8 (0 : Int32)) : va_W)[i]?) ([] : List Nat))) ⟨hx, hb, hml, hown, hts⟩ (c_X6_fails l K h a (hput M 8 (0 : Int32)) (1 : Int32) H.size) (cwV 1 hts gX6_both_X6_fails rfl rfl rfl (by decide +kernel) ⟨Nat.le_of_ble_eq_true rfl, Nat.le_of_ble_eq_true rfl⟩) hK hP hD hS hA [0, 1, 2, 3, 4, 5, 6, 7, 8, 9] [] [0, 1, 2, 3, 4, 5, 6, 7, 8, 9] rfl rfl rfl (fun _u => mw K h a (hput M 8 (1 : Int32))) (fun _ => rfl) 0 6 rfl rfl rfl rfl hl.1 rfl (Nat.le_of_ble_eq_true rfl) (Nat.le_of_ble_eq_true rfl) (Nat.le_of_ble_eq_true rfl) dX6_both_29 (fun r29 _ H locs hq29 hP hD hS => ?_)
    have hP : va_P K.1 vwCl (mw K h a (hput M 8 (1 : Int32))) H := hP
    have hD : va_D A (mw K h a (hput M 8 (1 : Int32))) := hD
    subst hq29
    have eR1 : (1 : Int32) = nI (kBoM (M 0) p r w) := by exact (congrArg nI (show kBoM (M 0) p r w = _ from (by simp [kBoM, c_13]; done))).symm
    rw [eR1] at hP hD
    exact hend _ _ _ _ _ _ _ () hP hD hS (Nat.le_of_ble_eq_true rfl) (Nat.le_of_ble_eq_true rfl) (by first | (intro hk9; (unfold mBo; (repeat' split) <;> first | rfl | omega); done) | (intro hk9; simp [kBoM, c_13] at hk9; done)) dX6_both_32
  · skip
    have hn2 := idx_cN hP0 (by omega) c_13
    refine lv_aload_n hx hb dX6_both_16 rfl (lv_at hl 0 rfl) ?_
    refine va_get (ci := 6) (v := .ref (a 0)) (C := RX6) (T := TX6) (N := 14) hx hb hts hi6 hown hK hP 0 rfl rfl 0 (by decide) lk7 (fun _ h9 => h9) rfl dX6_both_17 ?_
    refine lv_iload_n hx hb dX6_both_20 rfl (lv_at hl 2 rfl) ?_
    have hPc := P_sub (ws' := [((a 0), aI K 190 (M 0))]) hP [1] rfl
    refine xr_S (As := [.ref (a 0), .int r]) (rest := []) ⟨hx, hb, hml, hown, hts⟩ (c_X6_isRole l K (a 0) (M 0) r R hR0 (by omega)) (va_cwS 2 hts gX6_both_X6_isRole rfl rfl rfl (by decide +kernel) ⟨Nat.le_of_ble_eq_true rfl, Nat.le_of_ble_eq_true rfl⟩) hK hPc rfl hl.1 rfl (Nat.le_of_ble_eq_true rfl) (Nat.le_of_ble_eq_true rfl) (Nat.le_of_ble_eq_true rfl) dX6_both_21 ?_
    refine xb_if_ne (tgt := 33) hx hb dX6_both_24 (by decide) (fun c_24 => ?_) (fun c_24 => ?_)
    · skip
      have hn3 := idx_cN hR0 (by omega) c_24
      refine lv_iload_n hx hb dX6_both_33 rfl (lv_at hl 3 rfl) ?_
      refine lv_iconst (v := (0 : Int32)) hx hb dX6_both_34 (by decide) ?_
      refine lv_iconst (v := (2 : Int32)) hx hb dX6_both_35 (by decide) ?_
      have hPc := P_sub (ws' := []) hP [] rfl
      refine xr_S (As := [.int w, .int (0 : Int32), .int (2 : Int32)]) (rest := []) ⟨hx, hb, hml, hown, hts⟩ (c_X6_in l K w (0 : Int32) (2 : Int32)) (va_cwS 3 hts gX6_both_X6_in rfl rfl rfl (by decide +kernel) ⟨Nat.le_of_ble_eq_true rfl, Nat.le_of_ble_eq_true rfl⟩) hK hPc rfl hl.1 rfl (Nat.le_of_ble_eq_true rfl) (Nat.le_of_ble_eq_true rfl) (Nat.le_of_ble_eq_true rfl) dX6_both_36 ?_
      refine xb_if_ne (tgt := 48) hx hb dX6_both_39 (by decide) (fun c_39 => ?_) (fun c_39 => ?_)
      · skip
        have hn4 := rng_cN (lo := 0) (hi := 2) c_39 (by decide)
        refine lv_iload_n hx hb dX6_both_48 rfl (lv_at hl 3 rfl) ?_
        refine xn_if_ne (tgt := 64) hx hb (cN w) hn4.1 (by omega) dX6_both_49 (by decide) (fun c_49 => ?_) (fun c_49 => ?_)
        · skip
          refine lv_iload_n hx hb dX6_both_64 rfl (lv_at hl 3 rfl) ?_
          refine lv_iconst (v := (1 : Int32)) hx hb dX6_both_65 (by decide) ?_
          refine xn_icmp_ne (tgt := 87) hx hb (cN w) 1 hn4.1 rfl (by omega) (by decide) dX6_both_66 (by decide) (fun c_66 => ?_) (fun c_66 => ?_)
          · skip
            refine lv_aload_n hx hb dX6_both_87 rfl (lv_at hl 0 rfl) ?_
            refine va_get (ci := 6) (v := .ref (a 0)) (C := RX6) (T := TX6) (N := 14) hx hb hts hi6 hown hK hP 0 rfl rfl 0 (by decide) lk7 (fun _ h9 => h9) rfl dX6_both_88 ?_
            refine lv_iload_n hx hb dX6_both_91 rfl (lv_at hl 1 rfl) ?_
            refine lv_iload_n hx hb dX6_both_92 rfl (lv_at hl 2 rfl) ?_
            rw [show p = nI (cN p) from hn2.1]
            rw [show r = nI (cN r) from hn3.1]
            have hPc := P_sub (ws' := [((a 0), aI K 190 (M 0))]) hP [1] rfl
            refine xr_S (As := [.ref (a 0), .int (nI (cN p)), .int (nI (cN r))]) (rest := []) ⟨hx, hb, hml, hown, hts⟩ (c_X6_worth l K (a 0) (M 0) (cN p) (by omega) (cN r) (by omega)) (va_cwS 3 hts gX6_both_X6_worth rfl rfl rfl (by decide +kernel) ⟨Nat.le_of_ble_eq_true rfl, Nat.le_of_ble_eq_true rfl⟩) hK hPc rfl hl.1 rfl (Nat.le_of_ble_eq_true rfl) (Nat.le_of_ble_eq_true rfl) (Nat.le_of_ble_eq_true rfl) dX6_both_93 ?_
            have eR5 : (0 : Int32) = nI (kBoM (M 0) p r w) := by exact (congrArg nI (show kBoM (M 0) p r w = _ from (by simp [kBoM, c_13, c_24, c_39, c_49, c_66]; done))).symm
            rw [eR5] at hP hD
            exact hend _ _ _ _ _ _ _ () hP hD hS (Nat.le_of_ble_eq_true rfl) (Nat.le_of_ble_eq_true rfl) (by first | (intro hk9; (unfold mBo; (repeat' split) <;> first | rfl | omega); done) | (intro hk9; simp [kBoM, c_13, c_24, c_39, c_49, c_66] at hk9; done)) dX6_both_96
          · skip
            refine lv_aload_n hx hb dX6_both_69 rfl (lv_at hl 0 rfl) ?_
            refine va_get (ci := 6) (v := .ref (a 0)) (C := RX6) (T := TX6) (N := 14) hx hb hts hi6 hown hK hP 0 rfl rfl 0 (by decide) lk7 (fun _ h9 => h9) rfl dX6_both_70 ?_
            refine lv_sipush (v := (130 : Int32)) hx hb dX6_both_73 (by decide) ?_
            refine lv_bipush (v := (6 : Int32)) hx hb dX6_both_76 (by decide) ?_
            refine lv_iload_n hx hb dX6_both_78 rfl (lv_at hl 1 rfl) ?_
            refine lv_imul hx hb dX6_both_79 ?_
            refine lv_iadd hx hb dX6_both_80 ?_
            refine lv_iload_n hx hb dX6_both_81 rfl (lv_at hl 2 rfl) ?_
            refine lv_iadd hx hb dX6_both_82 ?_
            refine xi_ld hx hb hK hP 1 (f := M 0) rfl ((130 + (6 * (cN p))) + (cN r)) (nn_add (nn_add rfl (nn_mul rfl hn2.1)) hn3.1) (by omega) (by decide) dX6_both_83 ?_
            refine lv_goto (tgt := 96) hx hb dX6_both_84 (by decide) ?_
            have eR6 : (0 : Int32) = nI (kBoM (M 0) p r w) := by exact (congrArg nI (show kBoM (M 0) p r w = _ from (by simp [kBoM, c_13, c_24, c_39, c_49, c_66]; done))).symm
            rw [eR6] at hP hD
            exact hend _ _ _ _ _ _ _ () hP hD hS (Nat.le_of_ble_eq_true rfl) (Nat.le_of_ble_eq_true rfl) (by first | (intro hk9; (unfold mBo; (repeat' split) <;> first | rfl | omega); done) | (intro hk9; simp [kBoM, c_13, c_24, c_39, c_49, c_66] at hk9; done)) dX6_both_96
        · skip
          refine lv_aload_n hx hb dX6_both_52 rfl (lv_at hl 0 rfl) ?_
          refine va_get (ci := 6) (v := .ref (a 0)) (C := RX6) (T := TX6) (N := 14) hx hb hts hi6 hown hK hP 0 rfl rfl 0 (by decide) lk7 (fun _ h9 => h9) rfl dX6_both_53 ?_
          refine lv_iload_n hx hb dX6_both_56 rfl (lv_at hl 1 rfl) ?_
          refine lv_iload_n hx hb dX6_both_57 rfl (lv_at hl 2 rfl) ?_
          rw [show p = nI (cN p) from hn2.1]
          rw [show r = nI (cN r) from hn3.1]
          have hPc := P_sub (ws' := [((a 0), aI K 190 (M 0))]) hP [1] rfl
          refine xr_S (As := [.ref (a 0), .int (nI (cN p)), .int (nI (cN r))]) (rest := []) ⟨hx, hb, hml, hown, hts⟩ (c_X6_readyFor l K (a 0) (M 0) (cN p) (by omega) (cN r) (by omega)) (va_cwS 3 hts gX6_both_X6_readyFor rfl rfl rfl (by decide +kernel) ⟨Nat.le_of_ble_eq_true rfl, Nat.le_of_ble_eq_true rfl⟩) hK hPc rfl hl.1 rfl (Nat.le_of_ble_eq_true rfl) (Nat.le_of_ble_eq_true rfl) (Nat.le_of_ble_eq_true rfl) dX6_both_58 ?_
          refine lv_goto (tgt := 96) hx hb dX6_both_61 (by decide) ?_
          have eR7 : (0 : Int32) = nI (kBoM (M 0) p r w) := by exact (congrArg nI (show kBoM (M 0) p r w = _ from (by simp [kBoM, c_13, c_24, c_39, c_49]; done))).symm
          rw [eR7] at hP hD
          exact hend _ _ _ _ _ _ _ () hP hD hS (Nat.le_of_ble_eq_true rfl) (Nat.le_of_ble_eq_true rfl) (by first | (intro hk9; (unfold mBo; (repeat' split) <;> first | rfl | omega); done) | (intro hk9; simp [kBoM, c_13, c_24, c_39, c_49] at hk9; done)) dX6_both_96
      · skip
        refine lv_aload_n hx hb dX6_both_42 rfl (lv_at hl 0 rfl) ?_
        refine lv_iconst (v := (2 : Int32)) hx hb dX6_both_43 (by decide) ?_
        refine xw_Vi (As := [.int (2 : Int32)]) (rest := []) (wc := mw K h a (hput M 8 (0 : Int32))) (wr := (List.filterMap (fun i => (mw K h a (hput M 8 (0 : Int32)) : va_W)[i]?) ([] : List Nat))) ⟨hx, hb, hml, hown, hts⟩ (c_X6_fails l K h a (hput M 8 (0 : Int32)) (2 : Int32) H.size) (cwV 1 hts gX6_both_X6_fails rfl rfl rfl (by decide +kernel) ⟨Nat.le_of_ble_eq_true rfl, Nat.le_of_ble_eq_true rfl⟩) hK hP hD hS hA [0, 1, 2, 3, 4, 5, 6, 7, 8, 9] [] [0, 1, 2, 3, 4, 5, 6, 7, 8, 9] rfl rfl rfl (fun _u => mw K h a (hput M 8 (2 : Int32))) (fun _ => rfl) 0 6 rfl rfl rfl rfl hl.1 rfl (Nat.le_of_ble_eq_true rfl) (Nat.le_of_ble_eq_true rfl) (Nat.le_of_ble_eq_true rfl) dX6_both_44 (fun r44 _ H locs hq44 hP hD hS => ?_)
        have hP : va_P K.1 vwCl (mw K h a (hput M 8 (2 : Int32))) H := hP
        have hD : va_D A (mw K h a (hput M 8 (2 : Int32))) := hD
        subst hq44
        have eR8 : (2 : Int32) = nI (kBoM (M 0) p r w) := by exact (congrArg nI (show kBoM (M 0) p r w = _ from (by simp [kBoM, c_13, c_24, c_39]; done))).symm
        rw [eR8] at hP hD
        exact hend _ _ _ _ _ _ _ () hP hD hS (Nat.le_of_ble_eq_true rfl) (Nat.le_of_ble_eq_true rfl) (by first | (intro hk9; (unfold mBo; (repeat' split) <;> first | rfl | omega); done) | (intro hk9; simp [kBoM, c_13, c_24, c_39] at hk9; done)) dX6_both_47
    · skip
      refine lv_aload_n hx hb dX6_both_27 rfl (lv_at hl 0 rfl) ?_
      refine lv_iconst (v := (1 : Int32)) hx hb dX6_both_28 (by decide) ?_
      refine xw_Vi (As := [.int (1 : Int32)]) (rest := []) (wc := mw K h a (hput M 8 (0 : Int32))) (wr := (List.filterMap (fun i => (mw K h a (hput M 8 (0 : Int32)) : va_W)[i]?) ([] : List Nat))) ⟨hx, hb, hml, hown, hts⟩ (c_X6_fails l K h a (hput M 8 (0 : Int32)) (1 : Int32) H.size) (cwV 1 hts gX6_both_X6_fails rfl rfl rfl (by decide +kernel) ⟨Nat.le_of_ble_eq_true rfl, Nat.le_of_ble_eq_true rfl⟩) hK hP hD hS hA [0, 1, 2, 3, 4, 5, 6, 7, 8, 9] [] [0, 1, 2, 3, 4, 5, 6, 7, 8, 9] rfl rfl rfl (fun _u => mw K h a (hput M 8 (1 : Int32))) (fun _ => rfl) 0 6 rfl rfl rfl rfl hl.1 rfl (Nat.le_of_ble_eq_true rfl) (Nat.le_of_ble_eq_true rfl) (Nat.le_of_ble_eq_true rfl) dX6_both_29 (fun r29 _ H locs hq29 hP hD hS => ?_)
      have hP : va_P K.1 vwCl (mw K h a (hput M 8 (1 : Int32))) H := hP
      have hD : va_D A (mw K h a (hput M 8 (1 : Int32))) := hD
      subst hq29
      have eR9 : (1 : Int32) = nI (kBoM (M 0) p r w) := by exact (congrArg nI (show kBoM (M 0) p r w = _ from (by simp [kBoM, c_13, c_24]; done))).symm
      rw [eR9] at hP hD
      exact hend _ _ _ _ _ _ _ () hP hD hS (Nat.le_of_ble_eq_true rfl) (Nat.le_of_ble_eq_true rfl) (by first | (intro hk9; (unfold mBo; (repeat' split) <;> first | rfl | omega); done) | (intro hk9; simp [kBoM, c_13, c_24] at hk9; done)) dX6_both_32

abbrev rm_X6_setting : Room := { frames := 1, cells := 0, slots := 0, locals := 22 }
set_option maxHeartbeats 4000000 in
set_option maxRecDepth 100000 in
theorem c_X6_setting (l : Launch) (K : KX) (h : Nat) (a : Nat → Nat) (M : HV) (w : Int32) (sz : Nat) : Met l yX6_setting wsX6_setting rm_X6_setting (va_Pc [.ref h, .int w] (xPre K (mw K h a M) sz)) (va_Qi (fun (r9 : Int32) (_u : Unit) => kUp w 4 = 0 → r9 = M 0 (5 + cN w)) (fun _u t => xPost K (va_A (mw K h a M) sz) (mw K h a (hput (M) 8 (nI (kUp w 4)))) t) (va_A (mw K h a M) sz)) 0 0 (va_A (mw K h a M) sz) := by
  refine xw_starti (cc := cX6_setting) (maxL := 2) (by decide) rfl (Nat.le_of_ble_eq_true rfl) ?_
  intro p9 e9 s9 m9 below9 meth9 c9 H locs ls A av9 Q9 hx hb hlocks hml hname hts hown hK hP hD hS hA hsz hend hl
  have hown : s9.vm.findClass RX6 = some m9.cls := hown
  have hl : lv_has ls 2 [(0, .ref h), (1, .int w)] := hl
  have hi6 : ∀ w ∈ u_ws RX6 TX6 14, w ∈ wsX6_setting := by decide +kernel
  have lk42 := hts (.fieldLink RX6 42 "StandInsModel" "thrown" "I") (by decide +kernel)
  have lk7 := hts (.fieldLink RX6 7 "StandInsModel" "now" "[I") (by decide +kernel)
  refine lv_aload_n hx hb dX6_setting_0 rfl (lv_at hl 0 rfl) ?_
  refine lv_iconst (v := (0 : Int32)) hx hb dX6_setting_1 (by decide) ?_
  refine va_put (ci := 6) (v := .int (0 : Int32)) (ty := .int) (C := RX6) (T := TX6) (N := 14) hx hb hts hi6 tyX6 tyX6_ok nmX6 hown hK hP hD hS 0 rfl rfl 8 (by decide) lk42 (fun _ h9 => h9) rfl (by decide +kernel) rfl rfl (Nat.le_of_ble_eq_true rfl) dX6_setting_2 (fun H locs hP hD hS => ?_)
  have hP : va_P K.1 vwCl (mw K h a (hput M 8 (0 : Int32))) H := hP
  have hD : va_D A (mw K h a (hput M 8 (0 : Int32))) := hD
  refine lv_iload_n hx hb dX6_setting_5 rfl (lv_at hl 1 rfl) ?_
  refine lv_iconst (v := (0 : Int32)) hx hb dX6_setting_6 (by decide) ?_
  refine lv_iconst (v := (4 : Int32)) hx hb dX6_setting_7 (by decide) ?_
  have hPc := P_sub (ws' := []) hP [] rfl
  refine xr_S (As := [.int w, .int (0 : Int32), .int (4 : Int32)]) (rest := []) ⟨hx, hb, hml, hown, hts⟩ (c_X6_in l K w (0 : Int32) (4 : Int32)) (va_cwS 3 hts gX6_setting_X6_in rfl rfl rfl (by decide +kernel) ⟨Nat.le_of_ble_eq_true rfl, Nat.le_of_ble_eq_true rfl⟩) hK hPc rfl hl.1 rfl (Nat.le_of_ble_eq_true rfl) (Nat.le_of_ble_eq_true rfl) (Nat.le_of_ble_eq_true rfl) dX6_setting_8 ?_
  refine xb_if_eq (tgt := 25) hx hb dX6_setting_11 (by decide) (fun c_11 => ?_) (fun c_11 => ?_)
  · skip
    refine lv_aload_n hx hb dX6_setting_25 rfl (lv_at hl 0 rfl) ?_
    refine lv_iconst (v := (1 : Int32)) hx hb dX6_setting_26 (by decide) ?_
    refine xw_Vi (As := [.int (1 : Int32)]) (rest := []) (wc := mw K h a (hput M 8 (0 : Int32))) (wr := (List.filterMap (fun i => (mw K h a (hput M 8 (0 : Int32)) : va_W)[i]?) ([] : List Nat))) ⟨hx, hb, hml, hown, hts⟩ (c_X6_fails l K h a (hput M 8 (0 : Int32)) (1 : Int32) H.size) (cwV 1 hts gX6_setting_X6_fails rfl rfl rfl (by decide +kernel) ⟨Nat.le_of_ble_eq_true rfl, Nat.le_of_ble_eq_true rfl⟩) hK hP hD hS hA [0, 1, 2, 3, 4, 5, 6, 7, 8, 9] [] [0, 1, 2, 3, 4, 5, 6, 7, 8, 9] rfl rfl rfl (fun _u => mw K h a (hput M 8 (1 : Int32))) (fun _ => rfl) 0 6 rfl rfl rfl rfl hl.1 rfl (Nat.le_of_ble_eq_true rfl) (Nat.le_of_ble_eq_true rfl) (Nat.le_of_ble_eq_true rfl) dX6_setting_27 (fun r27 _ H locs hq27 hP hD hS => ?_)
    have hP : va_P K.1 vwCl (mw K h a (hput M 8 (1 : Int32))) H := hP
    have hD : va_D A (mw K h a (hput M 8 (1 : Int32))) := hD
    subst hq27
    have eR1 : (1 : Int32) = nI (kUp w 4) := by exact (congrArg nI (show kUp w 4 = _ from (by simp [kUp, c_11]; done))).symm
    rw [eR1] at hP hD
    exact hend _ _ _ _ _ _ _ () hP hD hS (Nat.le_of_ble_eq_true rfl) (Nat.le_of_ble_eq_true rfl) (by first | (intro hk9; rfl; done) | (intro hk9; simp [kUp, c_11] at hk9; done)) dX6_setting_30
  · skip
    have hn2 := rng_cN (lo := 0) (hi := 4) c_11 (by decide)
    refine lv_aload_n hx hb dX6_setting_14 rfl (lv_at hl 0 rfl) ?_
    refine va_get (ci := 6) (v := .ref (a 0)) (C := RX6) (T := TX6) (N := 14) hx hb hts hi6 hown hK hP 0 rfl rfl 0 (by decide) lk7 (fun _ h9 => h9) rfl dX6_setting_15 ?_
    refine lv_iconst (v := (5 : Int32)) hx hb dX6_setting_18 (by decide) ?_
    refine lv_iload_n hx hb dX6_setting_19 rfl (lv_at hl 1 rfl) ?_
    refine lv_iadd hx hb dX6_setting_20 ?_
    refine xi_ld hx hb hK hP 1 (f := M 0) rfl (5 + (cN w)) (nn_add rfl hn2.1) (by omega) (by decide) dX6_setting_21 ?_
    refine lv_goto (tgt := 30) hx hb dX6_setting_22 (by decide) ?_
    have eR3 : (0 : Int32) = nI (kUp w 4) := by exact (congrArg nI (show kUp w 4 = _ from (by simp [kUp, c_11]; done))).symm
    rw [eR3] at hP hD
    exact hend _ _ _ _ _ _ _ () hP hD hS (Nat.le_of_ble_eq_true rfl) (Nat.le_of_ble_eq_true rfl) (by first | (intro hk9; rfl; done) | (intro hk9; simp [kUp, c_11] at hk9; done)) dX6_setting_30

abbrev rm_X6_ranked : Room := { frames := 1, cells := 0, slots := 0, locals := 21 }
set_option maxHeartbeats 4000000 in
set_option maxRecDepth 100000 in
theorem c_X6_ranked (l : Launch) (K : KX) (h : Nat) (a : Nat → Nat) (M : HV) (k : Int32) (P : Nat) (hP0 : M 0 4 = nI P) (hP0b : P ≤ 10) (sz : Nat) : Met l yX6_ranked wsX6_ranked rm_X6_ranked (va_Pc [.ref h, .int k] (xPre K (mw K h a M) sz)) (va_Qi (fun (r9 : Int32) (_u : Unit) => kRank k = 0 → r9 = fstF (fun p => decide (plcM (M 0) p P = k)) 0 P) (fun _u t => xPost K (va_A (mw K h a M) sz) (mw K h a (hput (M) 8 (nI (kRank k)))) t) (va_A (mw K h a M) sz)) 0 0 (va_A (mw K h a M) sz) := by
  refine xw_starti (cc := cX6_ranked) (maxL := 5) (by decide) rfl (Nat.le_of_ble_eq_true rfl) ?_
  intro p9 e9 s9 m9 below9 meth9 c9 H locs ls A av9 Q9 hx hb hlocks hml hname hts hown hK hP hD hS hA hsz hend hl
  have hown : s9.vm.findClass RX6 = some m9.cls := hown
  have hl : lv_has ls 5 [(0, .ref h), (1, .int k)] := hl
  have hi6 : ∀ w ∈ u_ws RX6 TX6 14, w ∈ wsX6_ranked := by decide +kernel
  have lk42 := hts (.fieldLink RX6 42 "StandInsModel" "thrown" "I") (by decide +kernel)
  have lk7 := hts (.fieldLink RX6 7 "StandInsModel" "now" "[I") (by decide +kernel)
  refine lv_aload_n hx hb dX6_ranked_0 rfl (lv_at hl 0 rfl) ?_
  refine lv_iconst (v := (0 : Int32)) hx hb dX6_ranked_1 (by decide) ?_
  refine va_put (ci := 6) (v := .int (0 : Int32)) (ty := .int) (C := RX6) (T := TX6) (N := 14) hx hb hts hi6 tyX6 tyX6_ok nmX6 hown hK hP hD hS 0 rfl rfl 8 (by decide) lk42 (fun _ h9 => h9) rfl (by decide +kernel) rfl rfl (Nat.le_of_ble_eq_true rfl) dX6_ranked_2 (fun H locs hP hD hS => ?_)
  have hP : va_P K.1 vwCl (mw K h a (hput M 8 (0 : Int32))) H := hP
  have hD : va_D A (mw K h a (hput M 8 (0 : Int32))) := hD
  refine lv_iload_n hx hb dX6_ranked_5 rfl (lv_at hl 1 rfl) ?_
  refine lv_if_ge (tgt := 15) hx hb dX6_ranked_6 (by decide) (fun c_6 => ?_) (fun c_6 => ?_)
  · skip
    have c_6n := Int32.not_lt.mpr c_6
    refine lv_iconst (v := (0 : Int32)) hx hb dX6_ranked_15 (by decide) ?_
    refine lv_istore_n (lv' := [(2, .int (0 : Int32)), (0, .ref h), (1, .int k)]) hx hb dX6_ranked_16 rfl hl (by decide) rfl (fun ls hl => ?_)
    have lp17 : ∀ (n9 : Nat) (i : Nat) (H : Heap) (locs : List Loc) (ls : Array Slot), P - i < n9 → (i ≤ P) → (fstF (fun p => decide (plcM (M 0) p P = k)) 0 P = fstF (fun p => decide (plcM (M 0) p P = k)) i (P - i)) → va_P K.1 vwCl (mw K h a (hput M 8 (0 : Int32))) H → va_D A (mw K h a (hput M 8 (0 : Int32))) → va_S A s9.heap H locs → lv_has ls 5 [(0, .ref h), (1, .int k), (2, .int (nI i))] → W p9 l e9 rm_X6_ranked s9 m9 av9 below9 meth9 c9 H locs 0 0 Q9 (F0 m9 17 ls []) := by
      intro n9
      induction n9 with
      | zero => intro i H locs ls hmu hi hF hP hD hS hl; exact absurd hmu (Nat.not_lt_zero _)
      | succ n9 ih17 =>
        intro i H locs ls hmu hi hF hP hD hS hl
        refine lv_iload_n hx hb dX6_ranked_17 rfl (lv_at hl 2 rfl) ?_
        refine lv_aload_n hx hb dX6_ranked_18 rfl (lv_at hl 0 rfl) ?_
        refine va_get (ci := 6) (v := .ref (a 0)) (C := RX6) (T := TX6) (N := 14) hx hb hts hi6 hown hK hP 0 rfl rfl 0 (by decide) lk7 (fun _ h9 => h9) rfl dX6_ranked_19 ?_
        refine lv_iconst (v := (4 : Int32)) hx hb dX6_ranked_22 (by decide) ?_
        refine xi_ld hx hb hK hP 1 (f := M 0) rfl 4 rfl (by omega) (by decide) dX6_ranked_23 ?_
        refine xn_icmp_ge (tgt := 120) hx hb i P rfl hP0 (by omega) (by omega) dX6_ranked_24 (by decide) (fun c_24 => ?_) (fun c_24 => ?_)
        · skip
          refine lv_iconst (v := (-1 : Int32)) hx hb dX6_ranked_120 (by decide) ?_
          have eR1 : (0 : Int32) = nI (kRank k) := by first | exact (congrArg nI (show kRank k = 0 from if_neg c_6n)).symm | exact (congrArg nI (show kRank k = 1 from if_pos c_6n)).symm
          rw [eR1] at hP hD
          exact hend _ _ _ _ _ _ _ () hP hD hS (Nat.le_of_ble_eq_true rfl) (Nat.le_of_ble_eq_true rfl) (by (intro _; rw [hF]; exact (fstF_end c_24).symm)) dX6_ranked_121
        · skip
          refine lv_iconst (v := (0 : Int32)) hx hb dX6_ranked_27 (by decide) ?_
          refine lv_istore_n (lv' := [(3, .int (0 : Int32)), (0, .ref h), (1, .int k), (2, .int (nI i))]) hx hb dX6_ranked_28 rfl hl (by decide) rfl (fun ls hl => ?_)
          refine lv_iconst (v := (0 : Int32)) hx hb dX6_ranked_29 (by decide) ?_
          refine lv_istore (lv' := [(4, .int (0 : Int32)), (3, .int (0 : Int32)), (0, .ref h), (1, .int k), (2, .int (nI i))]) hx hb dX6_ranked_30 hl (by decide) rfl (fun ls hl => ?_)
          have lp32 : ∀ (n9 : Nat) (q : Nat) (H : Heap) (locs : List Loc) (ls : Array Slot), P - q < n9 → (q ≤ P) → va_P K.1 vwCl (mw K h a (hput M 8 (0 : Int32))) H → va_D A (mw K h a (hput M 8 (0 : Int32))) → va_S A s9.heap H locs → lv_has ls 5 [(0, .ref h), (1, .int k), (2, .int (nI i)), (3, .int (plcM (M 0) i q)), (4, .int (nI q))] → W p9 l e9 rm_X6_ranked s9 m9 av9 below9 meth9 c9 H locs 0 0 Q9 (F0 m9 32 ls []) := by
            intro n9
            induction n9 with
            | zero => intro q H locs ls hmu hq hP hD hS hl; exact absurd hmu (Nat.not_lt_zero _)
            | succ n9 ih32 =>
              intro q H locs ls hmu hq hP hD hS hl
              refine lv_iload hx hb dX6_ranked_32 (lv_at hl 4 rfl) ?_
              refine lv_aload_n hx hb dX6_ranked_34 rfl (lv_at hl 0 rfl) ?_
              refine va_get (ci := 6) (v := .ref (a 0)) (C := RX6) (T := TX6) (N := 14) hx hb hts hi6 hown hK hP 0 rfl rfl 0 (by decide) lk7 (fun _ h9 => h9) rfl dX6_ranked_35 ?_
              refine lv_iconst (v := (4 : Int32)) hx hb dX6_ranked_38 (by decide) ?_
              refine xi_ld hx hb hK hP 1 (f := M 0) rfl 4 rfl (by omega) (by decide) dX6_ranked_39 ?_
              refine xn_icmp_ge (tgt := 107) hx hb q P rfl hP0 (by omega) (by omega) dX6_ranked_40 (by decide) (fun c_40 => ?_) (fun c_40 => ?_)
              · skip
                have hq9 : P = q := (show q = P from by omega).symm
                subst hq9
                refine lv_iload_n hx hb dX6_ranked_107 rfl (lv_at hl 3 rfl) ?_
                refine lv_iload_n hx hb dX6_ranked_108 rfl (lv_at hl 1 rfl) ?_
                refine lv_icmp_ne (tgt := 114) hx hb dX6_ranked_109 (by decide) (fun c_109 => ?_) (fun c_109 => ?_)
                · skip
                  refine lv_iinc (v := nI (i + 1)) (lv' := [(2, .int (nI (i + 1))), (0, .ref h), (1, .int k), (3, .int (plcM (M 0) i P)), (4, .int (nI P))]) hx hb dX6_ranked_114 hl (k := 2) rfl (nI_1 _) (by decide) rfl (fun ls hl => ?_)
                  refine lv_goto (tgt := 17) hx hb dX6_ranked_117 (by decide) ?_
                  exact ih17 (i + 1) _ _ _ (by omega) (by first | omega | assumption | first | rfl | (simp [c_6, c_6n, c_24, c_40, c_109]; done) | omega) (by rw [hF]; exact fstF_step c_24 (by simpa using c_109)) hP hD hS (lv_cons (lv_at hl 1 rfl) (lv_cons (lv_at hl 2 rfl) (lv_cons (lv_at hl 0 rfl) (lv_nil hl))))
                · skip
                  refine lv_iload_n hx hb dX6_ranked_112 rfl (lv_at hl 2 rfl) ?_
                  have eR2 : (0 : Int32) = nI (kRank k) := by first | exact (congrArg nI (show kRank k = 0 from if_neg c_6n)).symm | exact (congrArg nI (show kRank k = 1 from if_pos c_6n)).symm
                  rw [eR2] at hP hD
                  exact hend _ _ _ _ _ _ _ () hP hD hS (Nat.le_of_ble_eq_true rfl) (Nat.le_of_ble_eq_true rfl) (by (intro _; rw [hF]; exact (fstF_hit c_24 (by simpa using c_109)).symm)) dX6_ranked_113
              · skip
                refine lv_iload_n hx hb dX6_ranked_43 rfl (lv_at hl 3 rfl) ?_
                refine lv_aload_n hx hb dX6_ranked_44 rfl (lv_at hl 0 rfl) ?_
                refine va_get (ci := 6) (v := .ref (a 0)) (C := RX6) (T := TX6) (N := 14) hx hb hts hi6 hown hK hP 0 rfl rfl 0 (by decide) lk7 (fun _ h9 => h9) rfl dX6_ranked_45 ?_
                refine lv_bipush (v := (30 : Int32)) hx hb dX6_ranked_48 (by decide) ?_
                refine lv_iload hx hb dX6_ranked_50 (lv_at hl 4 rfl) ?_
                refine lv_iadd hx hb dX6_ranked_52 ?_
                refine xi_ld hx hb hK hP 1 (f := M 0) rfl (30 + q) (nn_add rfl rfl) (by omega) (by decide) dX6_ranked_53 ?_
                refine lv_aload_n hx hb dX6_ranked_54 rfl (lv_at hl 0 rfl) ?_
                refine va_get (ci := 6) (v := .ref (a 0)) (C := RX6) (T := TX6) (N := 14) hx hb hts hi6 hown hK hP 0 rfl rfl 0 (by decide) lk7 (fun _ h9 => h9) rfl dX6_ranked_55 ?_
                refine lv_bipush (v := (30 : Int32)) hx hb dX6_ranked_58 (by decide) ?_
                refine lv_iload_n hx hb dX6_ranked_60 rfl (lv_at hl 2 rfl) ?_
                refine lv_iadd hx hb dX6_ranked_61 ?_
                refine xi_ld hx hb hK hP 1 (f := M 0) rfl (30 + i) (nn_add rfl rfl) (by omega) (by decide) dX6_ranked_62 ?_
                refine lv_icmp_gt (tgt := 94) hx hb dX6_ranked_63 (by decide) (fun c_63 => ?_) (fun c_63 => ?_)
                · skip
                  have c_63n := Int32.not_le.mpr c_63
                  have hpp : (M 0 (30 + i) < M 0 (30 + q) ∨ (M 0 (30 + q) = M 0 (30 + i) ∧ q < i)) := Or.inl c_63
                  refine lv_iconst (v := (1 : Int32)) hx hb dX6_ranked_94 (by decide) ?_
                  refine lv_goto (tgt := 99) hx hb dX6_ranked_95 (by decide) ?_
                  refine lv_iadd hx hb dX6_ranked_99 ?_
                  refine lv_istore_n (lv' := [(3, .int ((plcM (M 0) i q) + (1 : Int32))), (0, .ref h), (1, .int k), (2, .int (nI i)), (4, .int (nI q))]) hx hb dX6_ranked_100 rfl hl (by decide) rfl (fun ls hl => ?_)
                  refine lv_iinc (v := nI (q + 1)) (lv' := [(4, .int (nI (q + 1))), (3, .int ((plcM (M 0) i q) + (1 : Int32))), (0, .ref h), (1, .int k), (2, .int (nI i))]) hx hb dX6_ranked_101 hl (k := 4) rfl (nI_1 _) (by decide) rfl (fun ls hl => ?_)
                  refine lv_goto (tgt := 32) hx hb dX6_ranked_104 (by decide) ?_
                  exact ih32 (q + 1) _ _ _ (by omega) (by first | omega | assumption | first | rfl | (simp [c_6, c_6n, c_24, c_40, c_63, c_63n]; done) | omega) hP hD hS (lv_cons (lv_at hl 2 rfl) (lv_cons (lv_at hl 3 rfl) (lv_cons (lv_at hl 4 rfl) (lv_cons (lv_is (lv_at hl 1 rfl) (show (plcM (M 0) i q) + (1 : Int32) = plcM (M 0) i (q + 1) by (rw [plcM]; first | rw [if_pos hpp] | rw [if_neg hnn]))) (lv_cons (lv_at hl 0 rfl) (lv_nil hl))))))
                · skip
                  have c_63n := Int32.not_lt.mp c_63
                  refine lv_aload_n hx hb dX6_ranked_66 rfl (lv_at hl 0 rfl) ?_
                  refine va_get (ci := 6) (v := .ref (a 0)) (C := RX6) (T := TX6) (N := 14) hx hb hts hi6 hown hK hP 0 rfl rfl 0 (by decide) lk7 (fun _ h9 => h9) rfl dX6_ranked_67 ?_
                  refine lv_bipush (v := (30 : Int32)) hx hb dX6_ranked_70 (by decide) ?_
                  refine lv_iload hx hb dX6_ranked_72 (lv_at hl 4 rfl) ?_
                  refine lv_iadd hx hb dX6_ranked_74 ?_
                  refine xi_ld hx hb hK hP 1 (f := M 0) rfl (30 + q) (nn_add rfl rfl) (by omega) (by decide) dX6_ranked_75 ?_
                  refine lv_aload_n hx hb dX6_ranked_76 rfl (lv_at hl 0 rfl) ?_
                  refine va_get (ci := 6) (v := .ref (a 0)) (C := RX6) (T := TX6) (N := 14) hx hb hts hi6 hown hK hP 0 rfl rfl 0 (by decide) lk7 (fun _ h9 => h9) rfl dX6_ranked_77 ?_
                  refine lv_bipush (v := (30 : Int32)) hx hb dX6_ranked_80 (by decide) ?_
                  refine lv_iload_n hx hb dX6_ranked_82 rfl (lv_at hl 2 rfl) ?_
                  refine lv_iadd hx hb dX6_ranked_83 ?_
                  refine xi_ld hx hb hK hP 1 (f := M 0) rfl (30 + i) (nn_add rfl rfl) (by omega) (by decide) dX6_ranked_84 ?_
                  refine lv_icmp_ne (tgt := 98) hx hb dX6_ranked_85 (by decide) (fun c_85 => ?_) (fun c_85 => ?_)
                  · skip
                    have hnn : ¬ (M 0 (30 + i) < M 0 (30 + q) ∨ (M 0 (30 + q) = M 0 (30 + i) ∧ q < i)) := fun z => z.elim (Int32.not_lt.mpr c_63n) (fun z => c_85 z.1)
                    refine lv_iconst (v := (0 : Int32)) hx hb dX6_ranked_98 (by decide) ?_
                    refine lv_iadd hx hb dX6_ranked_99 ?_
                    refine lv_istore_n (lv' := [(3, .int ((plcM (M 0) i q) + (0 : Int32))), (0, .ref h), (1, .int k), (2, .int (nI i)), (4, .int (nI q))]) hx hb dX6_ranked_100 rfl hl (by decide) rfl (fun ls hl => ?_)
                    refine lv_iinc (v := nI (q + 1)) (lv' := [(4, .int (nI (q + 1))), (3, .int ((plcM (M 0) i q) + (0 : Int32))), (0, .ref h), (1, .int k), (2, .int (nI i))]) hx hb dX6_ranked_101 hl (k := 4) rfl (nI_1 _) (by decide) rfl (fun ls hl => ?_)
                    refine lv_goto (tgt := 32) hx hb dX6_ranked_104 (by decide) ?_
                    exact ih32 (q + 1) _ _ _ (by omega) (by first | omega | assumption | first | rfl | (simp [c_6, c_6n, c_24, c_40, c_63, c_63n, c_85]; done) | omega) hP hD hS (lv_cons (lv_at hl 2 rfl) (lv_cons (lv_at hl 3 rfl) (lv_cons (lv_at hl 4 rfl) (lv_cons (lv_is (lv_at hl 1 rfl) (show (plcM (M 0) i q) + (0 : Int32) = plcM (M 0) i (q + 1) by (rw [plcM]; first | rw [if_pos hpp] | rw [if_neg hnn]))) (lv_cons (lv_at hl 0 rfl) (lv_nil hl))))))
                  · skip
                    refine lv_iload hx hb dX6_ranked_88 (lv_at hl 4 rfl) ?_
                    refine lv_iload_n hx hb dX6_ranked_90 rfl (lv_at hl 2 rfl) ?_
                    refine xn_icmp_ge (tgt := 98) hx hb q i rfl rfl (by omega) (by omega) dX6_ranked_91 (by decide) (fun c_91 => ?_) (fun c_91 => ?_)
                    · skip
                      have hnn : ¬ (M 0 (30 + i) < M 0 (30 + q) ∨ (M 0 (30 + q) = M 0 (30 + i) ∧ q < i)) := fun z => z.elim (Int32.not_lt.mpr c_63n) (fun z => absurd z.2 (Nat.not_lt.mpr c_91))
                      refine lv_iconst (v := (0 : Int32)) hx hb dX6_ranked_98 (by decide) ?_
                      refine lv_iadd hx hb dX6_ranked_99 ?_
                      refine lv_istore_n (lv' := [(3, .int ((plcM (M 0) i q) + (0 : Int32))), (0, .ref h), (1, .int k), (2, .int (nI i)), (4, .int (nI q))]) hx hb dX6_ranked_100 rfl hl (by decide) rfl (fun ls hl => ?_)
                      refine lv_iinc (v := nI (q + 1)) (lv' := [(4, .int (nI (q + 1))), (3, .int ((plcM (M 0) i q) + (0 : Int32))), (0, .ref h), (1, .int k), (2, .int (nI i))]) hx hb dX6_ranked_101 hl (k := 4) rfl (nI_1 _) (by decide) rfl (fun ls hl => ?_)
                      refine lv_goto (tgt := 32) hx hb dX6_ranked_104 (by decide) ?_
                      exact ih32 (q + 1) _ _ _ (by omega) (by first | omega | assumption | first | rfl | (simp [c_6, c_6n, c_24, c_40, c_63, c_63n, c_85, c_91]; done) | omega) hP hD hS (lv_cons (lv_at hl 2 rfl) (lv_cons (lv_at hl 3 rfl) (lv_cons (lv_at hl 4 rfl) (lv_cons (lv_is (lv_at hl 1 rfl) (show (plcM (M 0) i q) + (0 : Int32) = plcM (M 0) i (q + 1) by (rw [plcM]; first | rw [if_pos hpp] | rw [if_neg hnn]))) (lv_cons (lv_at hl 0 rfl) (lv_nil hl))))))
                    · skip
                      have hpp : (M 0 (30 + i) < M 0 (30 + q) ∨ (M 0 (30 + q) = M 0 (30 + i) ∧ q < i)) := Or.inr ⟨c_85, c_91⟩
                      refine lv_iconst (v := (1 : Int32)) hx hb dX6_ranked_94 (by decide) ?_
                      refine lv_goto (tgt := 99) hx hb dX6_ranked_95 (by decide) ?_
                      refine lv_iadd hx hb dX6_ranked_99 ?_
                      refine lv_istore_n (lv' := [(3, .int ((plcM (M 0) i q) + (1 : Int32))), (0, .ref h), (1, .int k), (2, .int (nI i)), (4, .int (nI q))]) hx hb dX6_ranked_100 rfl hl (by decide) rfl (fun ls hl => ?_)
                      refine lv_iinc (v := nI (q + 1)) (lv' := [(4, .int (nI (q + 1))), (3, .int ((plcM (M 0) i q) + (1 : Int32))), (0, .ref h), (1, .int k), (2, .int (nI i))]) hx hb dX6_ranked_101 hl (k := 4) rfl (nI_1 _) (by decide) rfl (fun ls hl => ?_)
                      refine lv_goto (tgt := 32) hx hb dX6_ranked_104 (by decide) ?_
                      exact ih32 (q + 1) _ _ _ (by omega) (by first | omega | assumption | first | rfl | (simp [c_6, c_6n, c_24, c_40, c_63, c_63n, c_85, c_91]; done) | omega) hP hD hS (lv_cons (lv_at hl 2 rfl) (lv_cons (lv_at hl 3 rfl) (lv_cons (lv_at hl 4 rfl) (lv_cons (lv_is (lv_at hl 1 rfl) (show (plcM (M 0) i q) + (1 : Int32) = plcM (M 0) i (q + 1) by (rw [plcM]; first | rw [if_pos hpp] | rw [if_neg hnn]))) (lv_cons (lv_at hl 0 rfl) (lv_nil hl))))))
          exact lp32 _ 0 _ _ _ (Nat.lt_succ_self _) (by first | omega | assumption | first | rfl | (simp [c_6, c_6n, c_24]; done) | omega) hP hD hS (lv_cons (lv_at hl 2 rfl) (lv_cons (lv_at hl 3 rfl) (lv_cons (lv_at hl 4 rfl) (lv_cons (lv_is (lv_at hl 1 rfl) (show (0 : Int32) = plcM (M 0) i 0 by rfl)) (lv_cons (lv_is (lv_at hl 0 rfl) (show (0 : Int32) = nI 0 by rfl)) (lv_nil hl))))))
    exact lp17 _ 0 _ _ _ (Nat.lt_succ_self _) (by first | omega | assumption | first | rfl | (simp [c_6, c_6n]; done) | omega) (by rfl) hP hD hS (lv_cons (lv_at hl 1 rfl) (lv_cons (lv_at hl 2 rfl) (lv_cons (lv_is (lv_at hl 0 rfl) (show (0 : Int32) = nI 0 by first | rfl | (simp [c_6, c_6n]; done) | omega)) (lv_nil hl))))
  · skip
    have c_6n := Int32.not_le.mp c_6
    refine lv_aload_n hx hb dX6_ranked_9 rfl (lv_at hl 0 rfl) ?_
    refine lv_iconst (v := (1 : Int32)) hx hb dX6_ranked_10 (by decide) ?_
    refine xw_Vi (As := [.int (1 : Int32)]) (rest := []) (wc := mw K h a (hput M 8 (0 : Int32))) (wr := (List.filterMap (fun i => (mw K h a (hput M 8 (0 : Int32)) : va_W)[i]?) ([] : List Nat))) ⟨hx, hb, hml, hown, hts⟩ (c_X6_fails l K h a (hput M 8 (0 : Int32)) (1 : Int32) H.size) (cwV 1 hts gX6_ranked_X6_fails rfl rfl rfl (by decide +kernel) ⟨Nat.le_of_ble_eq_true rfl, Nat.le_of_ble_eq_true rfl⟩) hK hP hD hS hA [0, 1, 2, 3, 4, 5, 6, 7, 8, 9] [] [0, 1, 2, 3, 4, 5, 6, 7, 8, 9] rfl rfl rfl (fun _u => mw K h a (hput M 8 (1 : Int32))) (fun _ => rfl) 0 6 rfl rfl rfl rfl hl.1 rfl (Nat.le_of_ble_eq_true rfl) (Nat.le_of_ble_eq_true rfl) (Nat.le_of_ble_eq_true rfl) dX6_ranked_11 (fun r11 _ H locs hq11 hP hD hS => ?_)
    have hP : va_P K.1 vwCl (mw K h a (hput M 8 (1 : Int32))) H := hP
    have hD : va_D A (mw K h a (hput M 8 (1 : Int32))) := hD
    subst hq11
    have eR3 : (1 : Int32) = nI (kRank k) := by first | exact (congrArg nI (show kRank k = 0 from if_neg c_6n)).symm | exact (congrArg nI (show kRank k = 1 from if_pos c_6n)).symm
    rw [eR3] at hP hD
    exact hend _ _ _ _ _ _ _ () hP hD hS (Nat.le_of_ble_eq_true rfl) (Nat.le_of_ble_eq_true rfl) (by exact fun z => absurd z (by rw [show kRank k = 1 from if_pos c_6n]; decide)) dX6_ranked_14

/-! the model: actions -/
def kAddRoleM (N : Nat → Int32) (R : Nat) (w : Int32) : Nat := if ¬ inR w 1 9 then 1 else if R = 6 ∨ N 10 = 1 then 2 else 0
def kAddPlayerM (P : Nat) : Nat := if P = 10 then 1 else 0
def kReadyM (N : Nat → Int32) (p r d : Int32) : Nat := if ¬ isPlM N p ∨ ¬ isRoM N r then 1 else if inR d 0 9 then 0 else 2
def kFirstM (N : Nat → Int32) (r p : Int32) : Nat := if ¬ isRoM N r ∨ ¬ isPlM N p then 1 else 0
def kAwayM (N : Nat → Int32) (p d : Int32) : Nat := if ¬ isPlM N p then 1 else if inR d 1 99 then 0 else 2
def kPostM (N : Nat → Int32) (R P : Nat) : Nat := if R = 0 ∨ mStr N R P < 0 then 1 else 0
def kPlayM (R : Nat) : Nat := if R = 0 then 1 else 0
def isForM (w v : Int32) : Prop := if w = 0 then inR v 1 9 else if w = 2 then inR v 0 20 else if w = 3 then inR v 0 50 else inR v 0 99
def kSetM (w v : Int32) (b : Bool) : Nat := if inR w 0 4 ∧ b = true then 0 else 1
def isForB (w v : Int32) : Bool := if w = 0 then decide (inR v 1 9) else if w = 2 then decide (inR v 0 20) else if w = 3 then decide (inR v 0 50) else decide (inR v 0 99)
def tmM (N : Nat → Int32) (x : Int32) (r : Nat) : Int32 := if x = -1 then 0 else N (130 + 6 * cN x + r)
def prS (N : Nat → Int32) (r k : Nat) (b : Int32) : Int32 := if tmM N (N (18 + r)) r < tmM N (nI k) r ∧ tmM N b r ≤ tmM N (nI k) r then nI k else b
def prM (N : Nat → Int32) (r : Nat) : Nat → Int32 → Int32 | 0, b => b | k + 1, b => prM N r k (prS N r k b)
def kPromM (N : Nat → Int32) (P : Nat) (r : Int32) : Nat := if ¬ isRoM N r then 1 else if prM N (cN r) P (N (18 + cN r)) = N (18 + cN r) then 2 else 0
abbrev isPn (x : Int32) : Prop := x = -1 ∨ ∃ q, q < 10 ∧ x = nI q
theorem isPn_cl {x : Int32} (h : isPn x) (c : ¬ x = -1) : x = nI (cN x) ∧ cN x < 10 := by
  obtain ⟨q, hq, e⟩ := h.resolve_left c
  have e2 : cN x = q := nI_cl e (by omega)
  rw [e2]
  exact ⟨e, hq⟩
theorem isPn_s {N : Nat → Int32} {r k : Nat} {b : Int32} (hk : k < 10) (h : isPn b) : isPn (prS N r k b) := by
  unfold prS
  split
  · exact Or.inr ⟨k, hk, rfl⟩
  · exact h

abbrev rm_X6_addRole : Room := { frames := 2, cells := 0, slots := 0, locals := 45 }
set_option maxHeartbeats 4000000 in
set_option maxRecDepth 100000 in
theorem c_X6_addRole (l : Launch) (K : KX) (h : Nat) (a : Nat → Nat) (M : HV) (w : Int32) (R : Nat) (hR0 : M 0 3 = nI R) (hR0b : R ≤ 6) (c : Nat) (hc0 : M 3 0 = nI c) (hc0b : c ≤ 14) (sz : Nat) : Met l yX6_addRole wsX6_addRole rm_X6_addRole (va_Pc [.ref h, .int w] (xPre K (mw K h a M) sz)) (va_Qi (fun (r9 : Int32) (_u : Unit) => kAddRoleM (M 0) R w = 0 → r9 = nI R) (fun _u t => xPost K (va_A (mw K h a M) sz) (mw K h a (hput (hput (hrow (hrow M 0 (if kAddRoleM (M 0) R w = 0 then upd (upd (M 0) (12 + R) w) 3 (M 0 3 + 1) else M 0)) 2 (if kAddRoleM (M 0) R w = 0 then remP (M 0) (M 2) c else M 2)) 3 (if kAddRoleM (M 0) R w = 0 then nI (remC c) else M 3 0)) 8 (nI (kAddRoleM (M 0) R w)))) t) (va_A (mw K h a M) sz)) 0 0 (va_A (mw K h a M) sz) := by
  refine xw_starti (cc := cX6_addRole) (maxL := 2) (by decide) rfl (Nat.le_of_ble_eq_true rfl) ?_
  intro p9 e9 s9 m9 below9 meth9 c9 H locs ls A av9 Q9 hx hb hlocks hml hname hts hown hK hP hD hS hA hsz hend hl
  have hown : s9.vm.findClass RX6 = some m9.cls := hown
  have hl : lv_has ls 2 [(0, .ref h), (1, .int w)] := hl
  have hi6 : ∀ w ∈ u_ws RX6 TX6 14, w ∈ wsX6_addRole := by decide +kernel
  have lk42 := hts (.fieldLink RX6 42 "StandInsModel" "thrown" "I") (by decide +kernel)
  have lk7 := hts (.fieldLink RX6 7 "StandInsModel" "now" "[I") (by decide +kernel)
  refine lv_aload_n hx hb dX6_addRole_0 rfl (lv_at hl 0 rfl) ?_
  refine lv_iconst (v := (0 : Int32)) hx hb dX6_addRole_1 (by decide) ?_
  refine va_put (ci := 6) (v := .int (0 : Int32)) (ty := .int) (C := RX6) (T := TX6) (N := 14) hx hb hts hi6 tyX6 tyX6_ok nmX6 hown hK hP hD hS 0 rfl rfl 8 (by decide) lk42 (fun _ h9 => h9) rfl (by decide +kernel) rfl rfl (Nat.le_of_ble_eq_true rfl) dX6_addRole_2 (fun H locs hP hD hS => ?_)
  have hP : va_P K.1 vwCl (mw K h a (hput M 8 (0 : Int32))) H := hP
  have hD : va_D A (mw K h a (hput M 8 (0 : Int32))) := hD
  refine lv_iload_n hx hb dX6_addRole_5 rfl (lv_at hl 1 rfl) ?_
  refine lv_iconst (v := (1 : Int32)) hx hb dX6_addRole_6 (by decide) ?_
  refine lv_bipush (v := (9 : Int32)) hx hb dX6_addRole_7 (by decide) ?_
  have hPc := P_sub (ws' := []) hP [] rfl
  refine xr_S (As := [.int w, .int (1 : Int32), .int (9 : Int32)]) (rest := []) ⟨hx, hb, hml, hown, hts⟩ (c_X6_in l K w (1 : Int32) (9 : Int32)) (va_cwS 3 hts gX6_addRole_X6_in rfl rfl rfl (by decide +kernel) ⟨Nat.le_of_ble_eq_true rfl, Nat.le_of_ble_eq_true rfl⟩) hK hPc rfl hl.1 rfl (Nat.le_of_ble_eq_true rfl) (Nat.le_of_ble_eq_true rfl) (Nat.le_of_ble_eq_true rfl) dX6_addRole_9 ?_
  refine xb_if_ne (tgt := 21) hx hb dX6_addRole_12 (by decide) (fun c_12 => ?_) (fun c_12 => ?_)
  · skip
    refine lv_aload_n hx hb dX6_addRole_21 rfl (lv_at hl 0 rfl) ?_
    refine va_get (ci := 6) (v := .ref (a 0)) (C := RX6) (T := TX6) (N := 14) hx hb hts hi6 hown hK hP 0 rfl rfl 0 (by decide) lk7 (fun _ h9 => h9) rfl dX6_addRole_22 ?_
    refine lv_iconst (v := (3 : Int32)) hx hb dX6_addRole_25 (by decide) ?_
    refine xi_ld hx hb hK hP 1 (f := M 0) rfl 3 rfl (by omega) (by decide) dX6_addRole_26 ?_
    refine lv_bipush (v := (6 : Int32)) hx hb dX6_addRole_27 (by decide) ?_
    refine xn_icmp_eq (tgt := 43) hx hb R 6 hR0 rfl (by omega) (by decide) dX6_addRole_29 (by decide) (fun c_29 => ?_) (fun c_29 => ?_)
    · skip
      refine lv_aload_n hx hb dX6_addRole_43 rfl (lv_at hl 0 rfl) ?_
      refine lv_iconst (v := (2 : Int32)) hx hb dX6_addRole_44 (by decide) ?_
      refine xw_Vi (As := [.int (2 : Int32)]) (rest := []) (wc := mw K h a (hput M 8 (0 : Int32))) (wr := (List.filterMap (fun i => (mw K h a (hput M 8 (0 : Int32)) : va_W)[i]?) ([] : List Nat))) ⟨hx, hb, hml, hown, hts⟩ (c_X6_fails l K h a (hput M 8 (0 : Int32)) (2 : Int32) H.size) (cwV 1 hts gX6_addRole_X6_fails rfl rfl rfl (by decide +kernel) ⟨Nat.le_of_ble_eq_true rfl, Nat.le_of_ble_eq_true rfl⟩) hK hP hD hS hA [0, 1, 2, 3, 4, 5, 6, 7, 8, 9] [] [0, 1, 2, 3, 4, 5, 6, 7, 8, 9] rfl rfl rfl (fun _u => mw K h a (hput M 8 (2 : Int32))) (fun _ => rfl) 0 6 rfl rfl rfl rfl hl.1 rfl (Nat.le_of_ble_eq_true rfl) (Nat.le_of_ble_eq_true rfl) (Nat.le_of_ble_eq_true rfl) dX6_addRole_45 (fun r45 _ H locs hq45 hP hD hS => ?_)
      have hP : va_P K.1 vwCl (mw K h a (hput M 8 (2 : Int32))) H := hP
      have hD : va_D A (mw K h a (hput M 8 (2 : Int32))) := hD
      subst hq45
      have hP : va_P K.1 vwCl (mw K h a (hput (hrow M 0 (M 0)) 8 (2 : Int32))) H := hP
      have hD : va_D A (mw K h a (hput (hrow M 0 (M 0)) 8 (2 : Int32))) := hD
      have eR1 : (M 0) = if kAddRoleM (M 0) R w = 0 then upd (upd (M 0) (12 + R) w) 3 (M 0 3 + 1) else M 0 := by first | exact (if_pos (show kAddRoleM (M 0) R w = 0 from (by simp [kAddRoleM, c_12, c_29]; done))).symm | exact (if_neg (show ¬ kAddRoleM (M 0) R w = 0 from (by simp [kAddRoleM, c_12, c_29]; done))).symm | rw [if_pos (show kAddRoleM (M 0) R w = 0 from (by simp [kAddRoleM, c_12, c_29]; done))] | rw [if_neg (show ¬ kAddRoleM (M 0) R w = 0 from (by simp [kAddRoleM, c_12, c_29]; done))]
      have hP : va_P K.1 vwCl (mw K h a (hput (hrow M 0 (if kAddRoleM (M 0) R w = 0 then upd (upd (M 0) (12 + R) w) 3 (M 0 3 + 1) else M 0)) 8 (2 : Int32))) H := by rw [← eR1]; exact hP
      have hD : va_D A (mw K h a (hput (hrow M 0 (if kAddRoleM (M 0) R w = 0 then upd (upd (M 0) (12 + R) w) 3 (M 0 3 + 1) else M 0)) 8 (2 : Int32))) := by rw [← eR1]; exact hD
      have hP : va_P K.1 vwCl (mw K h a (hput (hrow (hrow M 0 (if kAddRoleM (M 0) R w = 0 then upd (upd (M 0) (12 + R) w) 3 (M 0 3 + 1) else M 0)) 2 (M 2)) 8 (2 : Int32))) H := hP
      have hD : va_D A (mw K h a (hput (hrow (hrow M 0 (if kAddRoleM (M 0) R w = 0 then upd (upd (M 0) (12 + R) w) 3 (M 0 3 + 1) else M 0)) 2 (M 2)) 8 (2 : Int32))) := hD
      have eR2 : (M 2) = if kAddRoleM (M 0) R w = 0 then remP (M 0) (M 2) c else M 2 := by first | exact (if_pos (show kAddRoleM (M 0) R w = 0 from (by simp [kAddRoleM, c_12, c_29]; done))).symm | exact (if_neg (show ¬ kAddRoleM (M 0) R w = 0 from (by simp [kAddRoleM, c_12, c_29]; done))).symm | rw [if_pos (show kAddRoleM (M 0) R w = 0 from (by simp [kAddRoleM, c_12, c_29]; done))] | rw [if_neg (show ¬ kAddRoleM (M 0) R w = 0 from (by simp [kAddRoleM, c_12, c_29]; done))]
      have hP : va_P K.1 vwCl (mw K h a (hput (hrow (hrow M 0 (if kAddRoleM (M 0) R w = 0 then upd (upd (M 0) (12 + R) w) 3 (M 0 3 + 1) else M 0)) 2 (if kAddRoleM (M 0) R w = 0 then remP (M 0) (M 2) c else M 2)) 8 (2 : Int32))) H := by rw [← eR2]; exact hP
      have hD : va_D A (mw K h a (hput (hrow (hrow M 0 (if kAddRoleM (M 0) R w = 0 then upd (upd (M 0) (12 + R) w) 3 (M 0 3 + 1) else M 0)) 2 (if kAddRoleM (M 0) R w = 0 then remP (M 0) (M 2) c else M 2)) 8 (2 : Int32))) := by rw [← eR2]; exact hD
      have hP : va_P K.1 vwCl (mw K h a (hput (hput (hrow (hrow M 0 (if kAddRoleM (M 0) R w = 0 then upd (upd (M 0) (12 + R) w) 3 (M 0 3 + 1) else M 0)) 2 (if kAddRoleM (M 0) R w = 0 then remP (M 0) (M 2) c else M 2)) 3 ((M 3) 0)) 8 (2 : Int32))) H := hP
      have hD : va_D A (mw K h a (hput (hput (hrow (hrow M 0 (if kAddRoleM (M 0) R w = 0 then upd (upd (M 0) (12 + R) w) 3 (M 0 3 + 1) else M 0)) 2 (if kAddRoleM (M 0) R w = 0 then remP (M 0) (M 2) c else M 2)) 3 ((M 3) 0)) 8 (2 : Int32))) := hD
      have eR3 : ((M 3) 0) = if kAddRoleM (M 0) R w = 0 then nI (remC c) else M 3 0 := by first | exact (if_pos (show kAddRoleM (M 0) R w = 0 from (by simp [kAddRoleM, c_12, c_29]; done))).symm | exact (if_neg (show ¬ kAddRoleM (M 0) R w = 0 from (by simp [kAddRoleM, c_12, c_29]; done))).symm | rw [if_pos (show kAddRoleM (M 0) R w = 0 from (by simp [kAddRoleM, c_12, c_29]; done))] | rw [if_neg (show ¬ kAddRoleM (M 0) R w = 0 from (by simp [kAddRoleM, c_12, c_29]; done))]
      rw [eR3] at hP hD
      have eR4 : (2 : Int32) = nI (kAddRoleM (M 0) R w) := by exact (congrArg nI (show kAddRoleM (M 0) R w = _ from (by simp [kAddRoleM, c_12, c_29]; done))).symm
      have hP : va_P K.1 vwCl (mw K h a (hput (hput (hrow (hrow M 0 (if kAddRoleM (M 0) R w = 0 then upd (upd (M 0) (12 + R) w) 3 (M 0 3 + 1) else M 0)) 2 (if kAddRoleM (M 0) R w = 0 then remP (M 0) (M 2) c else M 2)) 3 (if kAddRoleM (M 0) R w = 0 then nI (remC c) else M 3 0)) 8 (nI (kAddRoleM (M 0) R w)))) H := by rw [← eR4]; exact hP
      have hD : va_D A (mw K h a (hput (hput (hrow (hrow M 0 (if kAddRoleM (M 0) R w = 0 then upd (upd (M 0) (12 + R) w) 3 (M 0 3 + 1) else M 0)) 2 (if kAddRoleM (M 0) R w = 0 then remP (M 0) (M 2) c else M 2)) 3 (if kAddRoleM (M 0) R w = 0 then nI (remC c) else M 3 0)) 8 (nI (kAddRoleM (M 0) R w)))) := by rw [← eR4]; exact hD
      exact hend _ _ _ _ _ _ _ () hP hD hS (Nat.le_of_ble_eq_true rfl) (Nat.le_of_ble_eq_true rfl) (by first | (intro hk9; (rw [hR0, nI_1]; exact nI_pred R); done) | (intro hk9; simp [kAddRoleM, c_12, c_29] at hk9; done)) dX6_addRole_48
    · skip
      refine lv_aload_n hx hb dX6_addRole_32 rfl (lv_at hl 0 rfl) ?_
      refine va_get (ci := 6) (v := .ref (a 0)) (C := RX6) (T := TX6) (N := 14) hx hb hts hi6 hown hK hP 0 rfl rfl 0 (by decide) lk7 (fun _ h9 => h9) rfl dX6_addRole_33 ?_
      refine lv_bipush (v := (10 : Int32)) hx hb dX6_addRole_36 (by decide) ?_
      refine xi_ld hx hb hK hP 1 (f := M 0) rfl 10 rfl (by omega) (by decide) dX6_addRole_38 ?_
      refine lv_iconst (v := (1 : Int32)) hx hb dX6_addRole_39 (by decide) ?_
      refine lv_icmp_ne (tgt := 49) hx hb dX6_addRole_40 (by decide) (fun c_40 => ?_) (fun c_40 => ?_)
      · skip
        refine lv_aload_n hx hb dX6_addRole_49 rfl (lv_at hl 0 rfl) ?_
        refine xw_Vv (As := []) (rest := []) (wc := mw K h a (hput M 8 (0 : Int32))) (wr := (List.filterMap (fun i => (mw K h a (hput M 8 (0 : Int32)) : va_W)[i]?) ([] : List Nat))) ⟨hx, hb, hml, hown, hts⟩ (c_X6_remembers l K h a (hput M 8 (0 : Int32)) c hc0 (by omega) H.size) (cwV 0 hts gX6_addRole_X6_remembers rfl rfl rfl (by decide +kernel) ⟨Nat.le_of_ble_eq_true rfl, Nat.le_of_ble_eq_true rfl⟩) hK hP hD hS hA [0, 1, 2, 3, 4, 5, 6, 7, 8, 9] [] [0, 1, 2, 3, 4, 5, 6, 7, 8, 9] rfl rfl rfl (fun _u => mw K h a (hput (hput (hrow M 2 (remP (M 0) (M 2) c)) 3 (nI (remC c))) 8 (0 : Int32))) (fun _ => rfl) 0 6 rfl rfl rfl rfl hl.1 rfl (Nat.le_of_ble_eq_true rfl) (Nat.le_of_ble_eq_true rfl) (Nat.le_of_ble_eq_true rfl) dX6_addRole_50 (fun _ H locs hq50 hP hD hS => ?_)
        have hP : va_P K.1 vwCl (mw K h a (hput (hput (hrow M 2 (remP (M 0) (M 2) c)) 3 (nI (remC c))) 8 (0 : Int32))) H := hP
        have hD : va_D A (mw K h a (hput (hput (hrow M 2 (remP (M 0) (M 2) c)) 3 (nI (remC c))) 8 (0 : Int32))) := hD
        refine lv_aload_n hx hb dX6_addRole_53 rfl (lv_at hl 0 rfl) ?_
        refine lv_iload_n hx hb dX6_addRole_54 rfl (lv_at hl 1 rfl) ?_
        refine xw_Vv (As := [.int w]) (rest := []) (wc := mw K h a (hput (hput (hrow M 2 (remP (M 0) (M 2) c)) 3 (nI (remC c))) 8 (0 : Int32))) (wr := (List.filterMap (fun i => (mw K h a (hput (hput (hrow M 2 (remP (M 0) (M 2) c)) 3 (nI (remC c))) 8 (0 : Int32)) : va_W)[i]?) ([] : List Nat))) ⟨hx, hb, hml, hown, hts⟩ (c_X6_comes l K h a (hput (hput (hrow M 2 (remP (M 0) (M 2) c)) 3 (nI (remC c))) 8 (0 : Int32)) w R hR0 (by omega) H.size) (cwV 1 hts gX6_addRole_X6_comes rfl rfl rfl (by decide +kernel) ⟨Nat.le_of_ble_eq_true rfl, Nat.le_of_ble_eq_true rfl⟩) hK hP hD hS hA [0, 1, 2, 3, 4, 5, 6, 7, 8, 9] [] [0, 1, 2, 3, 4, 5, 6, 7, 8, 9] rfl rfl rfl (fun _u => mw K h a (hput (hput (hrow (hrow M 0 (upd (upd (M 0) (12 + R) w) 3 (M 0 3 + 1))) 2 (remP (M 0) (M 2) c)) 3 (nI (remC c))) 8 (0 : Int32))) (fun _ => rfl) 0 6 rfl rfl rfl rfl hl.1 rfl (Nat.le_of_ble_eq_true rfl) (Nat.le_of_ble_eq_true rfl) (Nat.le_of_ble_eq_true rfl) dX6_addRole_55 (fun _ H locs hq55 hP hD hS => ?_)
        have hP : va_P K.1 vwCl (mw K h a (hput (hput (hrow (hrow M 0 (upd (upd (M 0) (12 + R) w) 3 (M 0 3 + 1))) 2 (remP (M 0) (M 2) c)) 3 (nI (remC c))) 8 (0 : Int32))) H := hP
        have hD : va_D A (mw K h a (hput (hput (hrow (hrow M 0 (upd (upd (M 0) (12 + R) w) 3 (M 0 3 + 1))) 2 (remP (M 0) (M 2) c)) 3 (nI (remC c))) 8 (0 : Int32))) := hD
        refine lv_aload_n hx hb dX6_addRole_58 rfl (lv_at hl 0 rfl) ?_
        refine va_get (ci := 6) (v := .ref (a 0)) (C := RX6) (T := TX6) (N := 14) hx hb hts hi6 hown hK hP 0 rfl rfl 0 (by decide) lk7 (fun _ h9 => h9) rfl dX6_addRole_59 ?_
        refine lv_iconst (v := (3 : Int32)) hx hb dX6_addRole_62 (by decide) ?_
        refine xi_ld hx hb hK hP 1 (f := (upd (upd (M 0) (12 + R) w) 3 (M 0 3 + 1))) rfl 3 rfl (by omega) (by decide) dX6_addRole_63 ?_
        rw [show (upd (upd (M 0) (12 + R) w) 3 (M 0 3 + 1)) 3 = (M 0 3 + 1) from pk_us]
        refine lv_iconst (v := (1 : Int32)) hx hb dX6_addRole_64 (by decide) ?_
        refine lv_isub hx hb dX6_addRole_65 ?_
        have eR5 : (upd (upd (M 0) (12 + R) w) 3 (M 0 3 + 1)) = if kAddRoleM (M 0) R w = 0 then upd (upd (M 0) (12 + R) w) 3 (M 0 3 + 1) else M 0 := by first | exact (if_pos (show kAddRoleM (M 0) R w = 0 from (by simp [kAddRoleM, c_12, c_29, c_40]; done))).symm | exact (if_neg (show ¬ kAddRoleM (M 0) R w = 0 from (by simp [kAddRoleM, c_12, c_29, c_40]; done))).symm | rw [if_pos (show kAddRoleM (M 0) R w = 0 from (by simp [kAddRoleM, c_12, c_29, c_40]; done))] | rw [if_neg (show ¬ kAddRoleM (M 0) R w = 0 from (by simp [kAddRoleM, c_12, c_29, c_40]; done))]
        have hP : va_P K.1 vwCl (mw K h a (hput (hput (hrow (hrow M 0 (if kAddRoleM (M 0) R w = 0 then upd (upd (M 0) (12 + R) w) 3 (M 0 3 + 1) else M 0)) 2 (remP (M 0) (M 2) c)) 3 (nI (remC c))) 8 (0 : Int32))) H := by rw [← eR5]; exact hP
        have hD : va_D A (mw K h a (hput (hput (hrow (hrow M 0 (if kAddRoleM (M 0) R w = 0 then upd (upd (M 0) (12 + R) w) 3 (M 0 3 + 1) else M 0)) 2 (remP (M 0) (M 2) c)) 3 (nI (remC c))) 8 (0 : Int32))) := by rw [← eR5]; exact hD
        have eR6 : (remP (M 0) (M 2) c) = if kAddRoleM (M 0) R w = 0 then remP (M 0) (M 2) c else M 2 := by first | exact (if_pos (show kAddRoleM (M 0) R w = 0 from (by simp [kAddRoleM, c_12, c_29, c_40]; done))).symm | exact (if_neg (show ¬ kAddRoleM (M 0) R w = 0 from (by simp [kAddRoleM, c_12, c_29, c_40]; done))).symm | rw [if_pos (show kAddRoleM (M 0) R w = 0 from (by simp [kAddRoleM, c_12, c_29, c_40]; done))] | rw [if_neg (show ¬ kAddRoleM (M 0) R w = 0 from (by simp [kAddRoleM, c_12, c_29, c_40]; done))]
        have hP : va_P K.1 vwCl (mw K h a (hput (hput (hrow (hrow M 0 (if kAddRoleM (M 0) R w = 0 then upd (upd (M 0) (12 + R) w) 3 (M 0 3 + 1) else M 0)) 2 (if kAddRoleM (M 0) R w = 0 then remP (M 0) (M 2) c else M 2)) 3 (nI (remC c))) 8 (0 : Int32))) H := by rw [← eR6]; exact hP
        have hD : va_D A (mw K h a (hput (hput (hrow (hrow M 0 (if kAddRoleM (M 0) R w = 0 then upd (upd (M 0) (12 + R) w) 3 (M 0 3 + 1) else M 0)) 2 (if kAddRoleM (M 0) R w = 0 then remP (M 0) (M 2) c else M 2)) 3 (nI (remC c))) 8 (0 : Int32))) := by rw [← eR6]; exact hD
        have eR7 : (nI (remC c)) = if kAddRoleM (M 0) R w = 0 then nI (remC c) else M 3 0 := by first | exact (if_pos (show kAddRoleM (M 0) R w = 0 from (by simp [kAddRoleM, c_12, c_29, c_40]; done))).symm | exact (if_neg (show ¬ kAddRoleM (M 0) R w = 0 from (by simp [kAddRoleM, c_12, c_29, c_40]; done))).symm | rw [if_pos (show kAddRoleM (M 0) R w = 0 from (by simp [kAddRoleM, c_12, c_29, c_40]; done))] | rw [if_neg (show ¬ kAddRoleM (M 0) R w = 0 from (by simp [kAddRoleM, c_12, c_29, c_40]; done))]
        have hP : va_P K.1 vwCl (mw K h a (hput (hput (hrow (hrow M 0 (if kAddRoleM (M 0) R w = 0 then upd (upd (M 0) (12 + R) w) 3 (M 0 3 + 1) else M 0)) 2 (if kAddRoleM (M 0) R w = 0 then remP (M 0) (M 2) c else M 2)) 3 (if kAddRoleM (M 0) R w = 0 then nI (remC c) else M 3 0)) 8 (0 : Int32))) H := by rw [← eR7]; exact hP
        have hD : va_D A (mw K h a (hput (hput (hrow (hrow M 0 (if kAddRoleM (M 0) R w = 0 then upd (upd (M 0) (12 + R) w) 3 (M 0 3 + 1) else M 0)) 2 (if kAddRoleM (M 0) R w = 0 then remP (M 0) (M 2) c else M 2)) 3 (if kAddRoleM (M 0) R w = 0 then nI (remC c) else M 3 0)) 8 (0 : Int32))) := by rw [← eR7]; exact hD
        have eR8 : (0 : Int32) = nI (kAddRoleM (M 0) R w) := by exact (congrArg nI (show kAddRoleM (M 0) R w = _ from (by simp [kAddRoleM, c_12, c_29, c_40]; done))).symm
        have hP : va_P K.1 vwCl (mw K h a (hput (hput (hrow (hrow M 0 (if kAddRoleM (M 0) R w = 0 then upd (upd (M 0) (12 + R) w) 3 (M 0 3 + 1) else M 0)) 2 (if kAddRoleM (M 0) R w = 0 then remP (M 0) (M 2) c else M 2)) 3 (if kAddRoleM (M 0) R w = 0 then nI (remC c) else M 3 0)) 8 (nI (kAddRoleM (M 0) R w)))) H := by rw [← eR8]; exact hP
        have hD : va_D A (mw K h a (hput (hput (hrow (hrow M 0 (if kAddRoleM (M 0) R w = 0 then upd (upd (M 0) (12 + R) w) 3 (M 0 3 + 1) else M 0)) 2 (if kAddRoleM (M 0) R w = 0 then remP (M 0) (M 2) c else M 2)) 3 (if kAddRoleM (M 0) R w = 0 then nI (remC c) else M 3 0)) 8 (nI (kAddRoleM (M 0) R w)))) := by rw [← eR8]; exact hD
        exact hend _ _ _ _ _ _ _ () hP hD hS (Nat.le_of_ble_eq_true rfl) (Nat.le_of_ble_eq_true rfl) (by first | (intro hk9; (rw [hR0, nI_1]; exact nI_pred R); done) | (intro hk9; simp [kAddRoleM, c_12, c_29, c_40] at hk9; done)) dX6_addRole_66
      · skip
        refine lv_aload_n hx hb dX6_addRole_43 rfl (lv_at hl 0 rfl) ?_
        refine lv_iconst (v := (2 : Int32)) hx hb dX6_addRole_44 (by decide) ?_
        refine xw_Vi (As := [.int (2 : Int32)]) (rest := []) (wc := mw K h a (hput M 8 (0 : Int32))) (wr := (List.filterMap (fun i => (mw K h a (hput M 8 (0 : Int32)) : va_W)[i]?) ([] : List Nat))) ⟨hx, hb, hml, hown, hts⟩ (c_X6_fails l K h a (hput M 8 (0 : Int32)) (2 : Int32) H.size) (cwV 1 hts gX6_addRole_X6_fails rfl rfl rfl (by decide +kernel) ⟨Nat.le_of_ble_eq_true rfl, Nat.le_of_ble_eq_true rfl⟩) hK hP hD hS hA [0, 1, 2, 3, 4, 5, 6, 7, 8, 9] [] [0, 1, 2, 3, 4, 5, 6, 7, 8, 9] rfl rfl rfl (fun _u => mw K h a (hput M 8 (2 : Int32))) (fun _ => rfl) 0 6 rfl rfl rfl rfl hl.1 rfl (Nat.le_of_ble_eq_true rfl) (Nat.le_of_ble_eq_true rfl) (Nat.le_of_ble_eq_true rfl) dX6_addRole_45 (fun r45 _ H locs hq45 hP hD hS => ?_)
        have hP : va_P K.1 vwCl (mw K h a (hput M 8 (2 : Int32))) H := hP
        have hD : va_D A (mw K h a (hput M 8 (2 : Int32))) := hD
        subst hq45
        have hP : va_P K.1 vwCl (mw K h a (hput (hrow M 0 (M 0)) 8 (2 : Int32))) H := hP
        have hD : va_D A (mw K h a (hput (hrow M 0 (M 0)) 8 (2 : Int32))) := hD
        have eR9 : (M 0) = if kAddRoleM (M 0) R w = 0 then upd (upd (M 0) (12 + R) w) 3 (M 0 3 + 1) else M 0 := by first | exact (if_pos (show kAddRoleM (M 0) R w = 0 from (by simp [kAddRoleM, c_12, c_29, c_40]; done))).symm | exact (if_neg (show ¬ kAddRoleM (M 0) R w = 0 from (by simp [kAddRoleM, c_12, c_29, c_40]; done))).symm | rw [if_pos (show kAddRoleM (M 0) R w = 0 from (by simp [kAddRoleM, c_12, c_29, c_40]; done))] | rw [if_neg (show ¬ kAddRoleM (M 0) R w = 0 from (by simp [kAddRoleM, c_12, c_29, c_40]; done))]
        have hP : va_P K.1 vwCl (mw K h a (hput (hrow M 0 (if kAddRoleM (M 0) R w = 0 then upd (upd (M 0) (12 + R) w) 3 (M 0 3 + 1) else M 0)) 8 (2 : Int32))) H := by rw [← eR9]; exact hP
        have hD : va_D A (mw K h a (hput (hrow M 0 (if kAddRoleM (M 0) R w = 0 then upd (upd (M 0) (12 + R) w) 3 (M 0 3 + 1) else M 0)) 8 (2 : Int32))) := by rw [← eR9]; exact hD
        have hP : va_P K.1 vwCl (mw K h a (hput (hrow (hrow M 0 (if kAddRoleM (M 0) R w = 0 then upd (upd (M 0) (12 + R) w) 3 (M 0 3 + 1) else M 0)) 2 (M 2)) 8 (2 : Int32))) H := hP
        have hD : va_D A (mw K h a (hput (hrow (hrow M 0 (if kAddRoleM (M 0) R w = 0 then upd (upd (M 0) (12 + R) w) 3 (M 0 3 + 1) else M 0)) 2 (M 2)) 8 (2 : Int32))) := hD
        have eR10 : (M 2) = if kAddRoleM (M 0) R w = 0 then remP (M 0) (M 2) c else M 2 := by first | exact (if_pos (show kAddRoleM (M 0) R w = 0 from (by simp [kAddRoleM, c_12, c_29, c_40]; done))).symm | exact (if_neg (show ¬ kAddRoleM (M 0) R w = 0 from (by simp [kAddRoleM, c_12, c_29, c_40]; done))).symm | rw [if_pos (show kAddRoleM (M 0) R w = 0 from (by simp [kAddRoleM, c_12, c_29, c_40]; done))] | rw [if_neg (show ¬ kAddRoleM (M 0) R w = 0 from (by simp [kAddRoleM, c_12, c_29, c_40]; done))]
        have hP : va_P K.1 vwCl (mw K h a (hput (hrow (hrow M 0 (if kAddRoleM (M 0) R w = 0 then upd (upd (M 0) (12 + R) w) 3 (M 0 3 + 1) else M 0)) 2 (if kAddRoleM (M 0) R w = 0 then remP (M 0) (M 2) c else M 2)) 8 (2 : Int32))) H := by rw [← eR10]; exact hP
        have hD : va_D A (mw K h a (hput (hrow (hrow M 0 (if kAddRoleM (M 0) R w = 0 then upd (upd (M 0) (12 + R) w) 3 (M 0 3 + 1) else M 0)) 2 (if kAddRoleM (M 0) R w = 0 then remP (M 0) (M 2) c else M 2)) 8 (2 : Int32))) := by rw [← eR10]; exact hD
        have hP : va_P K.1 vwCl (mw K h a (hput (hput (hrow (hrow M 0 (if kAddRoleM (M 0) R w = 0 then upd (upd (M 0) (12 + R) w) 3 (M 0 3 + 1) else M 0)) 2 (if kAddRoleM (M 0) R w = 0 then remP (M 0) (M 2) c else M 2)) 3 ((M 3) 0)) 8 (2 : Int32))) H := hP
        have hD : va_D A (mw K h a (hput (hput (hrow (hrow M 0 (if kAddRoleM (M 0) R w = 0 then upd (upd (M 0) (12 + R) w) 3 (M 0 3 + 1) else M 0)) 2 (if kAddRoleM (M 0) R w = 0 then remP (M 0) (M 2) c else M 2)) 3 ((M 3) 0)) 8 (2 : Int32))) := hD
        have eR11 : ((M 3) 0) = if kAddRoleM (M 0) R w = 0 then nI (remC c) else M 3 0 := by first | exact (if_pos (show kAddRoleM (M 0) R w = 0 from (by simp [kAddRoleM, c_12, c_29, c_40]; done))).symm | exact (if_neg (show ¬ kAddRoleM (M 0) R w = 0 from (by simp [kAddRoleM, c_12, c_29, c_40]; done))).symm | rw [if_pos (show kAddRoleM (M 0) R w = 0 from (by simp [kAddRoleM, c_12, c_29, c_40]; done))] | rw [if_neg (show ¬ kAddRoleM (M 0) R w = 0 from (by simp [kAddRoleM, c_12, c_29, c_40]; done))]
        rw [eR11] at hP hD
        have eR12 : (2 : Int32) = nI (kAddRoleM (M 0) R w) := by exact (congrArg nI (show kAddRoleM (M 0) R w = _ from (by simp [kAddRoleM, c_12, c_29, c_40]; done))).symm
        have hP : va_P K.1 vwCl (mw K h a (hput (hput (hrow (hrow M 0 (if kAddRoleM (M 0) R w = 0 then upd (upd (M 0) (12 + R) w) 3 (M 0 3 + 1) else M 0)) 2 (if kAddRoleM (M 0) R w = 0 then remP (M 0) (M 2) c else M 2)) 3 (if kAddRoleM (M 0) R w = 0 then nI (remC c) else M 3 0)) 8 (nI (kAddRoleM (M 0) R w)))) H := by rw [← eR12]; exact hP
        have hD : va_D A (mw K h a (hput (hput (hrow (hrow M 0 (if kAddRoleM (M 0) R w = 0 then upd (upd (M 0) (12 + R) w) 3 (M 0 3 + 1) else M 0)) 2 (if kAddRoleM (M 0) R w = 0 then remP (M 0) (M 2) c else M 2)) 3 (if kAddRoleM (M 0) R w = 0 then nI (remC c) else M 3 0)) 8 (nI (kAddRoleM (M 0) R w)))) := by rw [← eR12]; exact hD
        exact hend _ _ _ _ _ _ _ () hP hD hS (Nat.le_of_ble_eq_true rfl) (Nat.le_of_ble_eq_true rfl) (by first | (intro hk9; (rw [hR0, nI_1]; exact nI_pred R); done) | (intro hk9; simp [kAddRoleM, c_12, c_29, c_40] at hk9; done)) dX6_addRole_48
  · skip
    refine lv_aload_n hx hb dX6_addRole_15 rfl (lv_at hl 0 rfl) ?_
    refine lv_iconst (v := (1 : Int32)) hx hb dX6_addRole_16 (by decide) ?_
    refine xw_Vi (As := [.int (1 : Int32)]) (rest := []) (wc := mw K h a (hput M 8 (0 : Int32))) (wr := (List.filterMap (fun i => (mw K h a (hput M 8 (0 : Int32)) : va_W)[i]?) ([] : List Nat))) ⟨hx, hb, hml, hown, hts⟩ (c_X6_fails l K h a (hput M 8 (0 : Int32)) (1 : Int32) H.size) (cwV 1 hts gX6_addRole_X6_fails rfl rfl rfl (by decide +kernel) ⟨Nat.le_of_ble_eq_true rfl, Nat.le_of_ble_eq_true rfl⟩) hK hP hD hS hA [0, 1, 2, 3, 4, 5, 6, 7, 8, 9] [] [0, 1, 2, 3, 4, 5, 6, 7, 8, 9] rfl rfl rfl (fun _u => mw K h a (hput M 8 (1 : Int32))) (fun _ => rfl) 0 6 rfl rfl rfl rfl hl.1 rfl (Nat.le_of_ble_eq_true rfl) (Nat.le_of_ble_eq_true rfl) (Nat.le_of_ble_eq_true rfl) dX6_addRole_17 (fun r17 _ H locs hq17 hP hD hS => ?_)
    have hP : va_P K.1 vwCl (mw K h a (hput M 8 (1 : Int32))) H := hP
    have hD : va_D A (mw K h a (hput M 8 (1 : Int32))) := hD
    subst hq17
    have hP : va_P K.1 vwCl (mw K h a (hput (hrow M 0 (M 0)) 8 (1 : Int32))) H := hP
    have hD : va_D A (mw K h a (hput (hrow M 0 (M 0)) 8 (1 : Int32))) := hD
    have eR13 : (M 0) = if kAddRoleM (M 0) R w = 0 then upd (upd (M 0) (12 + R) w) 3 (M 0 3 + 1) else M 0 := by first | exact (if_pos (show kAddRoleM (M 0) R w = 0 from (by simp [kAddRoleM, c_12]; done))).symm | exact (if_neg (show ¬ kAddRoleM (M 0) R w = 0 from (by simp [kAddRoleM, c_12]; done))).symm | rw [if_pos (show kAddRoleM (M 0) R w = 0 from (by simp [kAddRoleM, c_12]; done))] | rw [if_neg (show ¬ kAddRoleM (M 0) R w = 0 from (by simp [kAddRoleM, c_12]; done))]
    have hP : va_P K.1 vwCl (mw K h a (hput (hrow M 0 (if kAddRoleM (M 0) R w = 0 then upd (upd (M 0) (12 + R) w) 3 (M 0 3 + 1) else M 0)) 8 (1 : Int32))) H := by rw [← eR13]; exact hP
    have hD : va_D A (mw K h a (hput (hrow M 0 (if kAddRoleM (M 0) R w = 0 then upd (upd (M 0) (12 + R) w) 3 (M 0 3 + 1) else M 0)) 8 (1 : Int32))) := by rw [← eR13]; exact hD
    have hP : va_P K.1 vwCl (mw K h a (hput (hrow (hrow M 0 (if kAddRoleM (M 0) R w = 0 then upd (upd (M 0) (12 + R) w) 3 (M 0 3 + 1) else M 0)) 2 (M 2)) 8 (1 : Int32))) H := hP
    have hD : va_D A (mw K h a (hput (hrow (hrow M 0 (if kAddRoleM (M 0) R w = 0 then upd (upd (M 0) (12 + R) w) 3 (M 0 3 + 1) else M 0)) 2 (M 2)) 8 (1 : Int32))) := hD
    have eR14 : (M 2) = if kAddRoleM (M 0) R w = 0 then remP (M 0) (M 2) c else M 2 := by first | exact (if_pos (show kAddRoleM (M 0) R w = 0 from (by simp [kAddRoleM, c_12]; done))).symm | exact (if_neg (show ¬ kAddRoleM (M 0) R w = 0 from (by simp [kAddRoleM, c_12]; done))).symm | rw [if_pos (show kAddRoleM (M 0) R w = 0 from (by simp [kAddRoleM, c_12]; done))] | rw [if_neg (show ¬ kAddRoleM (M 0) R w = 0 from (by simp [kAddRoleM, c_12]; done))]
    have hP : va_P K.1 vwCl (mw K h a (hput (hrow (hrow M 0 (if kAddRoleM (M 0) R w = 0 then upd (upd (M 0) (12 + R) w) 3 (M 0 3 + 1) else M 0)) 2 (if kAddRoleM (M 0) R w = 0 then remP (M 0) (M 2) c else M 2)) 8 (1 : Int32))) H := by rw [← eR14]; exact hP
    have hD : va_D A (mw K h a (hput (hrow (hrow M 0 (if kAddRoleM (M 0) R w = 0 then upd (upd (M 0) (12 + R) w) 3 (M 0 3 + 1) else M 0)) 2 (if kAddRoleM (M 0) R w = 0 then remP (M 0) (M 2) c else M 2)) 8 (1 : Int32))) := by rw [← eR14]; exact hD
    have hP : va_P K.1 vwCl (mw K h a (hput (hput (hrow (hrow M 0 (if kAddRoleM (M 0) R w = 0 then upd (upd (M 0) (12 + R) w) 3 (M 0 3 + 1) else M 0)) 2 (if kAddRoleM (M 0) R w = 0 then remP (M 0) (M 2) c else M 2)) 3 ((M 3) 0)) 8 (1 : Int32))) H := hP
    have hD : va_D A (mw K h a (hput (hput (hrow (hrow M 0 (if kAddRoleM (M 0) R w = 0 then upd (upd (M 0) (12 + R) w) 3 (M 0 3 + 1) else M 0)) 2 (if kAddRoleM (M 0) R w = 0 then remP (M 0) (M 2) c else M 2)) 3 ((M 3) 0)) 8 (1 : Int32))) := hD
    have eR15 : ((M 3) 0) = if kAddRoleM (M 0) R w = 0 then nI (remC c) else M 3 0 := by first | exact (if_pos (show kAddRoleM (M 0) R w = 0 from (by simp [kAddRoleM, c_12]; done))).symm | exact (if_neg (show ¬ kAddRoleM (M 0) R w = 0 from (by simp [kAddRoleM, c_12]; done))).symm | rw [if_pos (show kAddRoleM (M 0) R w = 0 from (by simp [kAddRoleM, c_12]; done))] | rw [if_neg (show ¬ kAddRoleM (M 0) R w = 0 from (by simp [kAddRoleM, c_12]; done))]
    rw [eR15] at hP hD
    have eR16 : (1 : Int32) = nI (kAddRoleM (M 0) R w) := by exact (congrArg nI (show kAddRoleM (M 0) R w = _ from (by simp [kAddRoleM, c_12]; done))).symm
    have hP : va_P K.1 vwCl (mw K h a (hput (hput (hrow (hrow M 0 (if kAddRoleM (M 0) R w = 0 then upd (upd (M 0) (12 + R) w) 3 (M 0 3 + 1) else M 0)) 2 (if kAddRoleM (M 0) R w = 0 then remP (M 0) (M 2) c else M 2)) 3 (if kAddRoleM (M 0) R w = 0 then nI (remC c) else M 3 0)) 8 (nI (kAddRoleM (M 0) R w)))) H := by rw [← eR16]; exact hP
    have hD : va_D A (mw K h a (hput (hput (hrow (hrow M 0 (if kAddRoleM (M 0) R w = 0 then upd (upd (M 0) (12 + R) w) 3 (M 0 3 + 1) else M 0)) 2 (if kAddRoleM (M 0) R w = 0 then remP (M 0) (M 2) c else M 2)) 3 (if kAddRoleM (M 0) R w = 0 then nI (remC c) else M 3 0)) 8 (nI (kAddRoleM (M 0) R w)))) := by rw [← eR16]; exact hD
    exact hend _ _ _ _ _ _ _ () hP hD hS (Nat.le_of_ble_eq_true rfl) (Nat.le_of_ble_eq_true rfl) (by first | (intro hk9; (rw [hR0, nI_1]; exact nI_pred R); done) | (intro hk9; simp [kAddRoleM, c_12] at hk9; done)) dX6_addRole_20

abbrev rm_X6_addPlayer : Room := { frames := 2, cells := 0, slots := 0, locals := 45 }
set_option maxHeartbeats 4000000 in
set_option maxRecDepth 100000 in
theorem c_X6_addPlayer (l : Launch) (K : KX) (h : Nat) (a : Nat → Nat) (M : HV) (P : Nat) (hP0 : M 0 4 = nI P) (hP0b : P ≤ 10) (c : Nat) (hc0 : M 3 0 = nI c) (hc0b : c ≤ 14) (sz : Nat) : Met l yX6_addPlayer wsX6_addPlayer rm_X6_addPlayer (va_Pc [.ref h] (xPre K (mw K h a M) sz)) (va_Qi (fun (r9 : Int32) (_u : Unit) => kAddPlayerM P = 0 → r9 = nI P) (fun _u t => xPost K (va_A (mw K h a M) sz) (mw K h a (hput (hput (hrow (hrow M 0 (if kAddPlayerM P = 0 then upd (M 0) 4 (M 0 4 + 1) else M 0)) 2 (if kAddPlayerM P = 0 then remP (M 0) (M 2) c else M 2)) 3 (if kAddPlayerM P = 0 then nI (remC c) else M 3 0)) 8 (nI (kAddPlayerM P)))) t) (va_A (mw K h a M) sz)) 0 0 (va_A (mw K h a M) sz) := by
  refine xw_starti (cc := cX6_addPlayer) (maxL := 1) (by decide) rfl (Nat.le_of_ble_eq_true rfl) ?_
  intro p9 e9 s9 m9 below9 meth9 c9 H locs ls A av9 Q9 hx hb hlocks hml hname hts hown hK hP hD hS hA hsz hend hl
  have hown : s9.vm.findClass RX6 = some m9.cls := hown
  have hl : lv_has ls 1 [(0, .ref h)] := hl
  have hi6 : ∀ w ∈ u_ws RX6 TX6 14, w ∈ wsX6_addPlayer := by decide +kernel
  have lk42 := hts (.fieldLink RX6 42 "StandInsModel" "thrown" "I") (by decide +kernel)
  have lk7 := hts (.fieldLink RX6 7 "StandInsModel" "now" "[I") (by decide +kernel)
  refine lv_aload_n hx hb dX6_addPlayer_0 rfl (lv_at hl 0 rfl) ?_
  refine lv_iconst (v := (0 : Int32)) hx hb dX6_addPlayer_1 (by decide) ?_
  refine va_put (ci := 6) (v := .int (0 : Int32)) (ty := .int) (C := RX6) (T := TX6) (N := 14) hx hb hts hi6 tyX6 tyX6_ok nmX6 hown hK hP hD hS 0 rfl rfl 8 (by decide) lk42 (fun _ h9 => h9) rfl (by decide +kernel) rfl rfl (Nat.le_of_ble_eq_true rfl) dX6_addPlayer_2 (fun H locs hP hD hS => ?_)
  have hP : va_P K.1 vwCl (mw K h a (hput M 8 (0 : Int32))) H := hP
  have hD : va_D A (mw K h a (hput M 8 (0 : Int32))) := hD
  refine lv_aload_n hx hb dX6_addPlayer_5 rfl (lv_at hl 0 rfl) ?_
  refine va_get (ci := 6) (v := .ref (a 0)) (C := RX6) (T := TX6) (N := 14) hx hb hts hi6 hown hK hP 0 rfl rfl 0 (by decide) lk7 (fun _ h9 => h9) rfl dX6_addPlayer_6 ?_
  refine lv_iconst (v := (4 : Int32)) hx hb dX6_addPlayer_9 (by decide) ?_
  refine xi_ld hx hb hK hP 1 (f := M 0) rfl 4 rfl (by omega) (by decide) dX6_addPlayer_10 ?_
  refine lv_bipush (v := (10 : Int32)) hx hb dX6_addPlayer_11 (by decide) ?_
  refine xn_icmp_ne (tgt := 22) hx hb P 10 hP0 rfl (by omega) (by decide) dX6_addPlayer_13 (by decide) (fun c_13 => ?_) (fun c_13 => ?_)
  · skip
    refine lv_aload_n hx hb dX6_addPlayer_22 rfl (lv_at hl 0 rfl) ?_
    refine xw_Vv (As := []) (rest := []) (wc := mw K h a (hput M 8 (0 : Int32))) (wr := (List.filterMap (fun i => (mw K h a (hput M 8 (0 : Int32)) : va_W)[i]?) ([] : List Nat))) ⟨hx, hb, hml, hown, hts⟩ (c_X6_remembers l K h a (hput M 8 (0 : Int32)) c hc0 (by omega) H.size) (cwV 0 hts gX6_addPlayer_X6_remembers rfl rfl rfl (by decide +kernel) ⟨Nat.le_of_ble_eq_true rfl, Nat.le_of_ble_eq_true rfl⟩) hK hP hD hS hA [0, 1, 2, 3, 4, 5, 6, 7, 8, 9] [] [0, 1, 2, 3, 4, 5, 6, 7, 8, 9] rfl rfl rfl (fun _u => mw K h a (hput (hput (hrow M 2 (remP (M 0) (M 2) c)) 3 (nI (remC c))) 8 (0 : Int32))) (fun _ => rfl) 0 6 rfl rfl rfl rfl hl.1 rfl (Nat.le_of_ble_eq_true rfl) (Nat.le_of_ble_eq_true rfl) (Nat.le_of_ble_eq_true rfl) dX6_addPlayer_23 (fun _ H locs hq23 hP hD hS => ?_)
    have hP : va_P K.1 vwCl (mw K h a (hput (hput (hrow M 2 (remP (M 0) (M 2) c)) 3 (nI (remC c))) 8 (0 : Int32))) H := hP
    have hD : va_D A (mw K h a (hput (hput (hrow M 2 (remP (M 0) (M 2) c)) 3 (nI (remC c))) 8 (0 : Int32))) := hD
    refine lv_aload_n hx hb dX6_addPlayer_26 rfl (lv_at hl 0 rfl) ?_
    refine va_get (ci := 6) (v := .ref (a 0)) (C := RX6) (T := TX6) (N := 14) hx hb hts hi6 hown hK hP 0 rfl rfl 0 (by decide) lk7 (fun _ h9 => h9) rfl dX6_addPlayer_27 ?_
    refine lv_iconst (v := (4 : Int32)) hx hb dX6_addPlayer_30 (by decide) ?_
    refine lv_dup2_11 hx hb dX6_addPlayer_31 rfl rfl ?_
    refine xi_ld hx hb hK hP 1 (f := M 0) rfl 4 rfl (by omega) (by decide) dX6_addPlayer_32 ?_
    refine lv_iconst (v := (1 : Int32)) hx hb dX6_addPlayer_33 (by decide) ?_
    refine lv_iadd hx hb dX6_addPlayer_34 ?_
    refine xi_st hx hb hK hP hD hS 1 (f := M 0) rfl 4 rfl (by omega) (by decide) (mw K h a (hput (hput (hrow (hrow M 0 (upd (M 0) 4 ((M 0 4) + (1 : Int32)))) 2 (remP (M 0) (M 2) c)) 3 (nI (remC c))) 8 (0 : Int32))) rfl dX6_addPlayer_35 (fun H locs hP hD hS => ?_)
    refine lv_aload_n hx hb dX6_addPlayer_36 rfl (lv_at hl 0 rfl) ?_
    refine va_get (ci := 6) (v := .ref (a 0)) (C := RX6) (T := TX6) (N := 14) hx hb hts hi6 hown hK hP 0 rfl rfl 0 (by decide) lk7 (fun _ h9 => h9) rfl dX6_addPlayer_37 ?_
    refine lv_iconst (v := (4 : Int32)) hx hb dX6_addPlayer_40 (by decide) ?_
    refine xi_ld hx hb hK hP 1 (f := (upd (M 0) 4 ((M 0 4) + (1 : Int32)))) rfl 4 rfl (by omega) (by decide) dX6_addPlayer_41 ?_
    rw [show (upd (M 0) 4 ((M 0 4) + (1 : Int32))) 4 = ((M 0 4) + (1 : Int32)) from pk_us]
    refine lv_iconst (v := (1 : Int32)) hx hb dX6_addPlayer_42 (by decide) ?_
    refine lv_isub hx hb dX6_addPlayer_43 ?_
    have eR1 : (upd (M 0) 4 ((M 0 4) + (1 : Int32))) = if kAddPlayerM P = 0 then upd (M 0) 4 (M 0 4 + 1) else M 0 := by first | exact (if_pos (show kAddPlayerM P = 0 from (by simp [kAddPlayerM, c_13]; done))).symm | exact (if_neg (show ¬ kAddPlayerM P = 0 from (by simp [kAddPlayerM, c_13]; done))).symm | rw [if_pos (show kAddPlayerM P = 0 from (by simp [kAddPlayerM, c_13]; done))] | rw [if_neg (show ¬ kAddPlayerM P = 0 from (by simp [kAddPlayerM, c_13]; done))]
    rw [eR1] at hP hD
    have eR2 : (remP (M 0) (M 2) c) = if kAddPlayerM P = 0 then remP (M 0) (M 2) c else M 2 := by first | exact (if_pos (show kAddPlayerM P = 0 from (by simp [kAddPlayerM, c_13]; done))).symm | exact (if_neg (show ¬ kAddPlayerM P = 0 from (by simp [kAddPlayerM, c_13]; done))).symm | rw [if_pos (show kAddPlayerM P = 0 from (by simp [kAddPlayerM, c_13]; done))] | rw [if_neg (show ¬ kAddPlayerM P = 0 from (by simp [kAddPlayerM, c_13]; done))]
    have hP : va_P K.1 vwCl (mw K h a (hput (hput (hrow (hrow M 0 (if kAddPlayerM P = 0 then upd (M 0) 4 (M 0 4 + 1) else M 0)) 2 (if kAddPlayerM P = 0 then remP (M 0) (M 2) c else M 2)) 3 (nI (remC c))) 8 (0 : Int32))) H := by rw [← eR2]; exact hP
    have hD : va_D A (mw K h a (hput (hput (hrow (hrow M 0 (if kAddPlayerM P = 0 then upd (M 0) 4 (M 0 4 + 1) else M 0)) 2 (if kAddPlayerM P = 0 then remP (M 0) (M 2) c else M 2)) 3 (nI (remC c))) 8 (0 : Int32))) := by rw [← eR2]; exact hD
    have eR3 : (nI (remC c)) = if kAddPlayerM P = 0 then nI (remC c) else M 3 0 := by first | exact (if_pos (show kAddPlayerM P = 0 from (by simp [kAddPlayerM, c_13]; done))).symm | exact (if_neg (show ¬ kAddPlayerM P = 0 from (by simp [kAddPlayerM, c_13]; done))).symm | rw [if_pos (show kAddPlayerM P = 0 from (by simp [kAddPlayerM, c_13]; done))] | rw [if_neg (show ¬ kAddPlayerM P = 0 from (by simp [kAddPlayerM, c_13]; done))]
    have hP : va_P K.1 vwCl (mw K h a (hput (hput (hrow (hrow M 0 (if kAddPlayerM P = 0 then upd (M 0) 4 (M 0 4 + 1) else M 0)) 2 (if kAddPlayerM P = 0 then remP (M 0) (M 2) c else M 2)) 3 (if kAddPlayerM P = 0 then nI (remC c) else M 3 0)) 8 (0 : Int32))) H := by rw [← eR3]; exact hP
    have hD : va_D A (mw K h a (hput (hput (hrow (hrow M 0 (if kAddPlayerM P = 0 then upd (M 0) 4 (M 0 4 + 1) else M 0)) 2 (if kAddPlayerM P = 0 then remP (M 0) (M 2) c else M 2)) 3 (if kAddPlayerM P = 0 then nI (remC c) else M 3 0)) 8 (0 : Int32))) := by rw [← eR3]; exact hD
    have eR4 : (0 : Int32) = nI (kAddPlayerM P) := by exact (congrArg nI (show kAddPlayerM P = _ from (by simp [kAddPlayerM, c_13]; done))).symm
    have hP : va_P K.1 vwCl (mw K h a (hput (hput (hrow (hrow M 0 (if kAddPlayerM P = 0 then upd (M 0) 4 (M 0 4 + 1) else M 0)) 2 (if kAddPlayerM P = 0 then remP (M 0) (M 2) c else M 2)) 3 (if kAddPlayerM P = 0 then nI (remC c) else M 3 0)) 8 (nI (kAddPlayerM P)))) H := by rw [← eR4]; exact hP
    have hD : va_D A (mw K h a (hput (hput (hrow (hrow M 0 (if kAddPlayerM P = 0 then upd (M 0) 4 (M 0 4 + 1) else M 0)) 2 (if kAddPlayerM P = 0 then remP (M 0) (M 2) c else M 2)) 3 (if kAddPlayerM P = 0 then nI (remC c) else M 3 0)) 8 (nI (kAddPlayerM P)))) := by rw [← eR4]; exact hD
    exact hend _ _ _ _ _ _ _ () hP hD hS (Nat.le_of_ble_eq_true rfl) (Nat.le_of_ble_eq_true rfl) (by first | (intro hk9; (rw [hP0, nI_1]; exact nI_pred P); done) | (intro hk9; simp [kAddPlayerM, c_13] at hk9; done)) dX6_addPlayer_44
  · skip
    refine lv_aload_n hx hb dX6_addPlayer_16 rfl (lv_at hl 0 rfl) ?_
    refine lv_iconst (v := (1 : Int32)) hx hb dX6_addPlayer_17 (by decide) ?_
    refine xw_Vi (As := [.int (1 : Int32)]) (rest := []) (wc := mw K h a (hput M 8 (0 : Int32))) (wr := (List.filterMap (fun i => (mw K h a (hput M 8 (0 : Int32)) : va_W)[i]?) ([] : List Nat))) ⟨hx, hb, hml, hown, hts⟩ (c_X6_fails l K h a (hput M 8 (0 : Int32)) (1 : Int32) H.size) (cwV 1 hts gX6_addPlayer_X6_fails rfl rfl rfl (by decide +kernel) ⟨Nat.le_of_ble_eq_true rfl, Nat.le_of_ble_eq_true rfl⟩) hK hP hD hS hA [0, 1, 2, 3, 4, 5, 6, 7, 8, 9] [] [0, 1, 2, 3, 4, 5, 6, 7, 8, 9] rfl rfl rfl (fun _u => mw K h a (hput M 8 (1 : Int32))) (fun _ => rfl) 0 6 rfl rfl rfl rfl hl.1 rfl (Nat.le_of_ble_eq_true rfl) (Nat.le_of_ble_eq_true rfl) (Nat.le_of_ble_eq_true rfl) dX6_addPlayer_18 (fun r18 _ H locs hq18 hP hD hS => ?_)
    have hP : va_P K.1 vwCl (mw K h a (hput M 8 (1 : Int32))) H := hP
    have hD : va_D A (mw K h a (hput M 8 (1 : Int32))) := hD
    subst hq18
    have hP : va_P K.1 vwCl (mw K h a (hput (hrow M 0 (M 0)) 8 (1 : Int32))) H := hP
    have hD : va_D A (mw K h a (hput (hrow M 0 (M 0)) 8 (1 : Int32))) := hD
    have eR5 : (M 0) = if kAddPlayerM P = 0 then upd (M 0) 4 (M 0 4 + 1) else M 0 := by first | exact (if_pos (show kAddPlayerM P = 0 from (by simp [kAddPlayerM, c_13]; done))).symm | exact (if_neg (show ¬ kAddPlayerM P = 0 from (by simp [kAddPlayerM, c_13]; done))).symm | rw [if_pos (show kAddPlayerM P = 0 from (by simp [kAddPlayerM, c_13]; done))] | rw [if_neg (show ¬ kAddPlayerM P = 0 from (by simp [kAddPlayerM, c_13]; done))]
    have hP : va_P K.1 vwCl (mw K h a (hput (hrow M 0 (if kAddPlayerM P = 0 then upd (M 0) 4 (M 0 4 + 1) else M 0)) 8 (1 : Int32))) H := by rw [← eR5]; exact hP
    have hD : va_D A (mw K h a (hput (hrow M 0 (if kAddPlayerM P = 0 then upd (M 0) 4 (M 0 4 + 1) else M 0)) 8 (1 : Int32))) := by rw [← eR5]; exact hD
    have hP : va_P K.1 vwCl (mw K h a (hput (hrow (hrow M 0 (if kAddPlayerM P = 0 then upd (M 0) 4 (M 0 4 + 1) else M 0)) 2 (M 2)) 8 (1 : Int32))) H := hP
    have hD : va_D A (mw K h a (hput (hrow (hrow M 0 (if kAddPlayerM P = 0 then upd (M 0) 4 (M 0 4 + 1) else M 0)) 2 (M 2)) 8 (1 : Int32))) := hD
    have eR6 : (M 2) = if kAddPlayerM P = 0 then remP (M 0) (M 2) c else M 2 := by first | exact (if_pos (show kAddPlayerM P = 0 from (by simp [kAddPlayerM, c_13]; done))).symm | exact (if_neg (show ¬ kAddPlayerM P = 0 from (by simp [kAddPlayerM, c_13]; done))).symm | rw [if_pos (show kAddPlayerM P = 0 from (by simp [kAddPlayerM, c_13]; done))] | rw [if_neg (show ¬ kAddPlayerM P = 0 from (by simp [kAddPlayerM, c_13]; done))]
    have hP : va_P K.1 vwCl (mw K h a (hput (hrow (hrow M 0 (if kAddPlayerM P = 0 then upd (M 0) 4 (M 0 4 + 1) else M 0)) 2 (if kAddPlayerM P = 0 then remP (M 0) (M 2) c else M 2)) 8 (1 : Int32))) H := by rw [← eR6]; exact hP
    have hD : va_D A (mw K h a (hput (hrow (hrow M 0 (if kAddPlayerM P = 0 then upd (M 0) 4 (M 0 4 + 1) else M 0)) 2 (if kAddPlayerM P = 0 then remP (M 0) (M 2) c else M 2)) 8 (1 : Int32))) := by rw [← eR6]; exact hD
    have hP : va_P K.1 vwCl (mw K h a (hput (hput (hrow (hrow M 0 (if kAddPlayerM P = 0 then upd (M 0) 4 (M 0 4 + 1) else M 0)) 2 (if kAddPlayerM P = 0 then remP (M 0) (M 2) c else M 2)) 3 ((M 3) 0)) 8 (1 : Int32))) H := hP
    have hD : va_D A (mw K h a (hput (hput (hrow (hrow M 0 (if kAddPlayerM P = 0 then upd (M 0) 4 (M 0 4 + 1) else M 0)) 2 (if kAddPlayerM P = 0 then remP (M 0) (M 2) c else M 2)) 3 ((M 3) 0)) 8 (1 : Int32))) := hD
    have eR7 : ((M 3) 0) = if kAddPlayerM P = 0 then nI (remC c) else M 3 0 := by first | exact (if_pos (show kAddPlayerM P = 0 from (by simp [kAddPlayerM, c_13]; done))).symm | exact (if_neg (show ¬ kAddPlayerM P = 0 from (by simp [kAddPlayerM, c_13]; done))).symm | rw [if_pos (show kAddPlayerM P = 0 from (by simp [kAddPlayerM, c_13]; done))] | rw [if_neg (show ¬ kAddPlayerM P = 0 from (by simp [kAddPlayerM, c_13]; done))]
    rw [eR7] at hP hD
    have eR8 : (1 : Int32) = nI (kAddPlayerM P) := by exact (congrArg nI (show kAddPlayerM P = _ from (by simp [kAddPlayerM, c_13]; done))).symm
    have hP : va_P K.1 vwCl (mw K h a (hput (hput (hrow (hrow M 0 (if kAddPlayerM P = 0 then upd (M 0) 4 (M 0 4 + 1) else M 0)) 2 (if kAddPlayerM P = 0 then remP (M 0) (M 2) c else M 2)) 3 (if kAddPlayerM P = 0 then nI (remC c) else M 3 0)) 8 (nI (kAddPlayerM P)))) H := by rw [← eR8]; exact hP
    have hD : va_D A (mw K h a (hput (hput (hrow (hrow M 0 (if kAddPlayerM P = 0 then upd (M 0) 4 (M 0 4 + 1) else M 0)) 2 (if kAddPlayerM P = 0 then remP (M 0) (M 2) c else M 2)) 3 (if kAddPlayerM P = 0 then nI (remC c) else M 3 0)) 8 (nI (kAddPlayerM P)))) := by rw [← eR8]; exact hD
    exact hend _ _ _ _ _ _ _ () hP hD hS (Nat.le_of_ble_eq_true rfl) (Nat.le_of_ble_eq_true rfl) (by first | (intro hk9; (rw [hP0, nI_1]; exact nI_pred P); done) | (intro hk9; simp [kAddPlayerM, c_13] at hk9; done)) dX6_addPlayer_21

abbrev rm_X6_ready : Room := { frames := 2, cells := 0, slots := 0, locals := 45 }
set_option maxHeartbeats 4000000 in
set_option maxRecDepth 100000 in
theorem c_X6_ready (l : Launch) (K : KX) (h : Nat) (a : Nat → Nat) (M : HV) (p : Int32) (r : Int32) (d : Int32) (R : Nat) (hR0 : M 0 3 = nI R) (hR0b : R ≤ 6) (P : Nat) (hP0 : M 0 4 = nI P) (hP0b : P ≤ 10) (c : Nat) (hc0 : M 3 0 = nI c) (hc0b : c ≤ 14) (sz : Nat) : Met l yX6_ready wsX6_ready rm_X6_ready (va_Pc [.ref h, .int p, .int r, .int d] (xPre K (mw K h a M) sz)) (va_Qi (fun (r9 : Int32) (_u : Unit) => kReadyM (M 0) p r d = 0 → r9 = M 0 (70 + 6 * cN p + cN r)) (fun _u t => xPost K (va_A (mw K h a M) sz) (mw K h a (hput (hput (hrow (hrow M 0 (if kReadyM (M 0) p r d = 0 then upd (M 0) (70 + 6 * cN p + cN r) d else M 0)) 2 (if kReadyM (M 0) p r d = 0 then remP (M 0) (M 2) c else M 2)) 3 (if kReadyM (M 0) p r d = 0 then nI (remC c) else M 3 0)) 8 (nI (kReadyM (M 0) p r d)))) t) (va_A (mw K h a M) sz)) 0 0 (va_A (mw K h a M) sz) := by
  refine xw_starti (cc := cX6_ready) (maxL := 5) (by decide) rfl (Nat.le_of_ble_eq_true rfl) ?_
  intro p9 e9 s9 m9 below9 meth9 c9 H locs ls A av9 Q9 hx hb hlocks hml hname hts hown hK hP hD hS hA hsz hend hl
  have hown : s9.vm.findClass RX6 = some m9.cls := hown
  have hl : lv_has ls 5 [(0, .ref h), (1, .int p), (2, .int r), (3, .int d)] := hl
  have hi6 : ∀ w ∈ u_ws RX6 TX6 14, w ∈ wsX6_ready := by decide +kernel
  have lk42 := hts (.fieldLink RX6 42 "StandInsModel" "thrown" "I") (by decide +kernel)
  have lk7 := hts (.fieldLink RX6 7 "StandInsModel" "now" "[I") (by decide +kernel)
  refine lv_aload_n hx hb dX6_ready_0 rfl (lv_at hl 0 rfl) ?_
  refine lv_iconst (v := (0 : Int32)) hx hb dX6_ready_1 (by decide) ?_
  refine va_put (ci := 6) (v := .int (0 : Int32)) (ty := .int) (C := RX6) (T := TX6) (N := 14) hx hb hts hi6 tyX6 tyX6_ok nmX6 hown hK hP hD hS 0 rfl rfl 8 (by decide) lk42 (fun _ h9 => h9) rfl (by decide +kernel) rfl rfl (Nat.le_of_ble_eq_true rfl) dX6_ready_2 (fun H locs hP hD hS => ?_)
  have hP : va_P K.1 vwCl (mw K h a (hput M 8 (0 : Int32))) H := hP
  have hD : va_D A (mw K h a (hput M 8 (0 : Int32))) := hD
  refine lv_aload_n hx hb dX6_ready_5 rfl (lv_at hl 0 rfl) ?_
  refine va_get (ci := 6) (v := .ref (a 0)) (C := RX6) (T := TX6) (N := 14) hx hb hts hi6 hown hK hP 0 rfl rfl 0 (by decide) lk7 (fun _ h9 => h9) rfl dX6_ready_6 ?_
  refine lv_iload_n hx hb dX6_ready_9 rfl (lv_at hl 1 rfl) ?_
  have hPc := P_sub (ws' := [((a 0), aI K 190 (M 0))]) hP [1] rfl
  refine xr_S (As := [.ref (a 0), .int p]) (rest := []) ⟨hx, hb, hml, hown, hts⟩ (c_X6_isPlayer l K (a 0) (M 0) p P hP0 (by omega)) (va_cwS 2 hts gX6_ready_X6_isPlayer rfl rfl rfl (by decide +kernel) ⟨Nat.le_of_ble_eq_true rfl, Nat.le_of_ble_eq_true rfl⟩) hK hPc rfl hl.1 rfl (Nat.le_of_ble_eq_true rfl) (Nat.le_of_ble_eq_true rfl) (Nat.le_of_ble_eq_true rfl) dX6_ready_10 ?_
  refine xb_if_eq (tgt := 27) hx hb dX6_ready_13 (by decide) (fun c_13 => ?_) (fun c_13 => ?_)
  · skip
    refine lv_aload_n hx hb dX6_ready_27 rfl (lv_at hl 0 rfl) ?_
    refine lv_iconst (v := (1 : Int32)) hx hb dX6_ready_28 (by decide) ?_
    refine xw_Vi (As := [.int (1 : Int32)]) (rest := []) (wc := mw K h a (hput M 8 (0 : Int32))) (wr := (List.filterMap (fun i => (mw K h a (hput M 8 (0 : Int32)) : va_W)[i]?) ([] : List Nat))) ⟨hx, hb, hml, hown, hts⟩ (c_X6_fails l K h a (hput M 8 (0 : Int32)) (1 : Int32) H.size) (cwV 1 hts gX6_ready_X6_fails rfl rfl rfl (by decide +kernel) ⟨Nat.le_of_ble_eq_true rfl, Nat.le_of_ble_eq_true rfl⟩) hK hP hD hS hA [0, 1, 2, 3, 4, 5, 6, 7, 8, 9] [] [0, 1, 2, 3, 4, 5, 6, 7, 8, 9] rfl rfl rfl (fun _u => mw K h a (hput M 8 (1 : Int32))) (fun _ => rfl) 0 6 rfl rfl rfl rfl hl.1 rfl (Nat.le_of_ble_eq_true rfl) (Nat.le_of_ble_eq_true rfl) (Nat.le_of_ble_eq_true rfl) dX6_ready_29 (fun r29 _ H locs hq29 hP hD hS => ?_)
    have hP : va_P K.1 vwCl (mw K h a (hput M 8 (1 : Int32))) H := hP
    have hD : va_D A (mw K h a (hput M 8 (1 : Int32))) := hD
    subst hq29
    have hP : va_P K.1 vwCl (mw K h a (hput (hrow M 0 (M 0)) 8 (1 : Int32))) H := hP
    have hD : va_D A (mw K h a (hput (hrow M 0 (M 0)) 8 (1 : Int32))) := hD
    have eR1 : (M 0) = if kReadyM (M 0) p r d = 0 then upd (M 0) (70 + 6 * cN p + cN r) d else M 0 := by first | exact (if_pos (show kReadyM (M 0) p r d = 0 from (by simp [kReadyM, c_13]; done))).symm | exact (if_neg (show ¬ kReadyM (M 0) p r d = 0 from (by simp [kReadyM, c_13]; done))).symm | rw [if_pos (show kReadyM (M 0) p r d = 0 from (by simp [kReadyM, c_13]; done))] | rw [if_neg (show ¬ kReadyM (M 0) p r d = 0 from (by simp [kReadyM, c_13]; done))]
    have hP : va_P K.1 vwCl (mw K h a (hput (hrow M 0 (if kReadyM (M 0) p r d = 0 then upd (M 0) (70 + 6 * cN p + cN r) d else M 0)) 8 (1 : Int32))) H := by rw [← eR1]; exact hP
    have hD : va_D A (mw K h a (hput (hrow M 0 (if kReadyM (M 0) p r d = 0 then upd (M 0) (70 + 6 * cN p + cN r) d else M 0)) 8 (1 : Int32))) := by rw [← eR1]; exact hD
    have hP : va_P K.1 vwCl (mw K h a (hput (hrow (hrow M 0 (if kReadyM (M 0) p r d = 0 then upd (M 0) (70 + 6 * cN p + cN r) d else M 0)) 2 (M 2)) 8 (1 : Int32))) H := hP
    have hD : va_D A (mw K h a (hput (hrow (hrow M 0 (if kReadyM (M 0) p r d = 0 then upd (M 0) (70 + 6 * cN p + cN r) d else M 0)) 2 (M 2)) 8 (1 : Int32))) := hD
    have eR2 : (M 2) = if kReadyM (M 0) p r d = 0 then remP (M 0) (M 2) c else M 2 := by first | exact (if_pos (show kReadyM (M 0) p r d = 0 from (by simp [kReadyM, c_13]; done))).symm | exact (if_neg (show ¬ kReadyM (M 0) p r d = 0 from (by simp [kReadyM, c_13]; done))).symm | rw [if_pos (show kReadyM (M 0) p r d = 0 from (by simp [kReadyM, c_13]; done))] | rw [if_neg (show ¬ kReadyM (M 0) p r d = 0 from (by simp [kReadyM, c_13]; done))]
    have hP : va_P K.1 vwCl (mw K h a (hput (hrow (hrow M 0 (if kReadyM (M 0) p r d = 0 then upd (M 0) (70 + 6 * cN p + cN r) d else M 0)) 2 (if kReadyM (M 0) p r d = 0 then remP (M 0) (M 2) c else M 2)) 8 (1 : Int32))) H := by rw [← eR2]; exact hP
    have hD : va_D A (mw K h a (hput (hrow (hrow M 0 (if kReadyM (M 0) p r d = 0 then upd (M 0) (70 + 6 * cN p + cN r) d else M 0)) 2 (if kReadyM (M 0) p r d = 0 then remP (M 0) (M 2) c else M 2)) 8 (1 : Int32))) := by rw [← eR2]; exact hD
    have hP : va_P K.1 vwCl (mw K h a (hput (hput (hrow (hrow M 0 (if kReadyM (M 0) p r d = 0 then upd (M 0) (70 + 6 * cN p + cN r) d else M 0)) 2 (if kReadyM (M 0) p r d = 0 then remP (M 0) (M 2) c else M 2)) 3 ((M 3) 0)) 8 (1 : Int32))) H := hP
    have hD : va_D A (mw K h a (hput (hput (hrow (hrow M 0 (if kReadyM (M 0) p r d = 0 then upd (M 0) (70 + 6 * cN p + cN r) d else M 0)) 2 (if kReadyM (M 0) p r d = 0 then remP (M 0) (M 2) c else M 2)) 3 ((M 3) 0)) 8 (1 : Int32))) := hD
    have eR3 : ((M 3) 0) = if kReadyM (M 0) p r d = 0 then nI (remC c) else M 3 0 := by first | exact (if_pos (show kReadyM (M 0) p r d = 0 from (by simp [kReadyM, c_13]; done))).symm | exact (if_neg (show ¬ kReadyM (M 0) p r d = 0 from (by simp [kReadyM, c_13]; done))).symm | rw [if_pos (show kReadyM (M 0) p r d = 0 from (by simp [kReadyM, c_13]; done))] | rw [if_neg (show ¬ kReadyM (M 0) p r d = 0 from (by simp [kReadyM, c_13]; done))]
    rw [eR3] at hP hD
    have eR4 : (1 : Int32) = nI (kReadyM (M 0) p r d) := by exact (congrArg nI (show kReadyM (M 0) p r d = _ from (by simp [kReadyM, c_13]; done))).symm
    have hP : va_P K.1 vwCl (mw K h a (hput (hput (hrow (hrow M 0 (if kReadyM (M 0) p r d = 0 then upd (M 0) (70 + 6 * cN p + cN r) d else M 0)) 2 (if kReadyM (M 0) p r d = 0 then remP (M 0) (M 2) c else M 2)) 3 (if kReadyM (M 0) p r d = 0 then nI (remC c) else M 3 0)) 8 (nI (kReadyM (M 0) p r d)))) H := by rw [← eR4]; exact hP
    have hD : va_D A (mw K h a (hput (hput (hrow (hrow M 0 (if kReadyM (M 0) p r d = 0 then upd (M 0) (70 + 6 * cN p + cN r) d else M 0)) 2 (if kReadyM (M 0) p r d = 0 then remP (M 0) (M 2) c else M 2)) 3 (if kReadyM (M 0) p r d = 0 then nI (remC c) else M 3 0)) 8 (nI (kReadyM (M 0) p r d)))) := by rw [← eR4]; exact hD
    exact hend _ _ _ _ _ _ _ () hP hD hS (Nat.le_of_ble_eq_true rfl) (Nat.le_of_ble_eq_true rfl) (by first | (intro hk9; rfl; done) | (intro hk9; simp [kReadyM, c_13] at hk9; done)) dX6_ready_32
  · skip
    have hn5 := idx_cN hP0 (by omega) c_13
    refine lv_aload_n hx hb dX6_ready_16 rfl (lv_at hl 0 rfl) ?_
    refine va_get (ci := 6) (v := .ref (a 0)) (C := RX6) (T := TX6) (N := 14) hx hb hts hi6 hown hK hP 0 rfl rfl 0 (by decide) lk7 (fun _ h9 => h9) rfl dX6_ready_17 ?_
    refine lv_iload_n hx hb dX6_ready_20 rfl (lv_at hl 2 rfl) ?_
    have hPc := P_sub (ws' := [((a 0), aI K 190 (M 0))]) hP [1] rfl
    refine xr_S (As := [.ref (a 0), .int r]) (rest := []) ⟨hx, hb, hml, hown, hts⟩ (c_X6_isRole l K (a 0) (M 0) r R hR0 (by omega)) (va_cwS 2 hts gX6_ready_X6_isRole rfl rfl rfl (by decide +kernel) ⟨Nat.le_of_ble_eq_true rfl, Nat.le_of_ble_eq_true rfl⟩) hK hPc rfl hl.1 rfl (Nat.le_of_ble_eq_true rfl) (Nat.le_of_ble_eq_true rfl) (Nat.le_of_ble_eq_true rfl) dX6_ready_21 ?_
    refine xb_if_ne (tgt := 33) hx hb dX6_ready_24 (by decide) (fun c_24 => ?_) (fun c_24 => ?_)
    · skip
      have hn6 := idx_cN hR0 (by omega) c_24
      refine lv_iload_n hx hb dX6_ready_33 rfl (lv_at hl 3 rfl) ?_
      refine lv_iconst (v := (0 : Int32)) hx hb dX6_ready_34 (by decide) ?_
      refine lv_bipush (v := (9 : Int32)) hx hb dX6_ready_35 (by decide) ?_
      have hPc := P_sub (ws' := []) hP [] rfl
      refine xr_S (As := [.int d, .int (0 : Int32), .int (9 : Int32)]) (rest := []) ⟨hx, hb, hml, hown, hts⟩ (c_X6_in l K d (0 : Int32) (9 : Int32)) (va_cwS 3 hts gX6_ready_X6_in rfl rfl rfl (by decide +kernel) ⟨Nat.le_of_ble_eq_true rfl, Nat.le_of_ble_eq_true rfl⟩) hK hPc rfl hl.1 rfl (Nat.le_of_ble_eq_true rfl) (Nat.le_of_ble_eq_true rfl) (Nat.le_of_ble_eq_true rfl) dX6_ready_37 ?_
      refine xb_if_ne (tgt := 49) hx hb dX6_ready_40 (by decide) (fun c_40 => ?_) (fun c_40 => ?_)
      · skip
        refine lv_aload_n hx hb dX6_ready_49 rfl (lv_at hl 0 rfl) ?_
        refine xw_Vv (As := []) (rest := []) (wc := mw K h a (hput M 8 (0 : Int32))) (wr := (List.filterMap (fun i => (mw K h a (hput M 8 (0 : Int32)) : va_W)[i]?) ([] : List Nat))) ⟨hx, hb, hml, hown, hts⟩ (c_X6_remembers l K h a (hput M 8 (0 : Int32)) c hc0 (by omega) H.size) (cwV 0 hts gX6_ready_X6_remembers rfl rfl rfl (by decide +kernel) ⟨Nat.le_of_ble_eq_true rfl, Nat.le_of_ble_eq_true rfl⟩) hK hP hD hS hA [0, 1, 2, 3, 4, 5, 6, 7, 8, 9] [] [0, 1, 2, 3, 4, 5, 6, 7, 8, 9] rfl rfl rfl (fun _u => mw K h a (hput (hput (hrow M 2 (remP (M 0) (M 2) c)) 3 (nI (remC c))) 8 (0 : Int32))) (fun _ => rfl) 0 6 rfl rfl rfl rfl hl.1 rfl (Nat.le_of_ble_eq_true rfl) (Nat.le_of_ble_eq_true rfl) (Nat.le_of_ble_eq_true rfl) dX6_ready_50 (fun _ H locs hq50 hP hD hS => ?_)
        have hP : va_P K.1 vwCl (mw K h a (hput (hput (hrow M 2 (remP (M 0) (M 2) c)) 3 (nI (remC c))) 8 (0 : Int32))) H := hP
        have hD : va_D A (mw K h a (hput (hput (hrow M 2 (remP (M 0) (M 2) c)) 3 (nI (remC c))) 8 (0 : Int32))) := hD
        refine lv_aload_n hx hb dX6_ready_53 rfl (lv_at hl 0 rfl) ?_
        refine va_get (ci := 6) (v := .ref (a 0)) (C := RX6) (T := TX6) (N := 14) hx hb hts hi6 hown hK hP 0 rfl rfl 0 (by decide) lk7 (fun _ h9 => h9) rfl dX6_ready_54 ?_
        refine lv_iload_n hx hb dX6_ready_57 rfl (lv_at hl 1 rfl) ?_
        refine lv_iload_n hx hb dX6_ready_58 rfl (lv_at hl 2 rfl) ?_
        rw [show p = nI (cN p) from hn5.1]
        rw [show r = nI (cN r) from hn6.1]
        have hPc := P_sub (ws' := [((a 0), aI K 190 (M 0))]) hP [1] rfl
        refine xr_S (As := [.ref (a 0), .int (nI (cN p)), .int (nI (cN r))]) (rest := []) ⟨hx, hb, hml, hown, hts⟩ (c_X6_readyFor l K (a 0) (M 0) (cN p) (by omega) (cN r) (by omega)) (va_cwS 3 hts gX6_ready_X6_readyFor rfl rfl rfl (by decide +kernel) ⟨Nat.le_of_ble_eq_true rfl, Nat.le_of_ble_eq_true rfl⟩) hK hPc rfl hl.1 rfl (Nat.le_of_ble_eq_true rfl) (Nat.le_of_ble_eq_true rfl) (Nat.le_of_ble_eq_true rfl) dX6_ready_59 ?_
        refine lv_istore (lv' := [(4, .int ((M 0) (70 + 6 * (cN p) + (cN r)))), (0, .ref h), (1, .int p), (2, .int r), (3, .int d)]) hx hb dX6_ready_62 hl (by decide) rfl (fun ls hl => ?_)
        refine lv_aload_n hx hb dX6_ready_64 rfl (lv_at hl 1 rfl) ?_
        refine va_get (ci := 6) (v := .ref (a 0)) (C := RX6) (T := TX6) (N := 14) hx hb hts hi6 hown hK hP 0 rfl rfl 0 (by decide) lk7 (fun _ h9 => h9) rfl dX6_ready_65 ?_
        refine lv_bipush (v := (70 : Int32)) hx hb dX6_ready_68 (by decide) ?_
        refine lv_bipush (v := (6 : Int32)) hx hb dX6_ready_70 (by decide) ?_
        refine lv_iload_n hx hb dX6_ready_72 rfl (lv_at hl 2 rfl) ?_
        refine lv_imul hx hb dX6_ready_73 ?_
        refine lv_iadd hx hb dX6_ready_74 ?_
        refine lv_iload_n hx hb dX6_ready_75 rfl (lv_at hl 3 rfl) ?_
        refine lv_iadd hx hb dX6_ready_76 ?_
        refine lv_iload_n hx hb dX6_ready_77 rfl (lv_at hl 4 rfl) ?_
        refine xi_st hx hb hK hP hD hS 1 (f := M 0) rfl ((70 + (6 * (cN p))) + (cN r)) (nn_add (nn_add rfl (nn_mul rfl hn5.1)) hn6.1) (by omega) (by decide) (mw K h a (hput (hput (hrow (hrow M 0 (upd (M 0) ((70 + (6 * (cN p))) + (cN r)) d)) 2 (remP (M 0) (M 2) c)) 3 (nI (remC c))) 8 (0 : Int32))) rfl dX6_ready_78 (fun H locs hP hD hS => ?_)
        refine lv_iload hx hb dX6_ready_79 (lv_at hl 0 rfl) ?_
        have eR7 : (upd (M 0) ((70 + (6 * (cN p))) + (cN r)) d) = if kReadyM (M 0) p r d = 0 then upd (M 0) (70 + 6 * cN p + cN r) d else M 0 := by first | exact (if_pos (show kReadyM (M 0) p r d = 0 from (by simp [kReadyM, c_13, c_24, c_40]; done))).symm | exact (if_neg (show ¬ kReadyM (M 0) p r d = 0 from (by simp [kReadyM, c_13, c_24, c_40]; done))).symm | rw [if_pos (show kReadyM (M 0) p r d = 0 from (by simp [kReadyM, c_13, c_24, c_40]; done))] | rw [if_neg (show ¬ kReadyM (M 0) p r d = 0 from (by simp [kReadyM, c_13, c_24, c_40]; done))]
        rw [eR7] at hP hD
        have eR8 : (remP (M 0) (M 2) c) = if kReadyM (M 0) p r d = 0 then remP (M 0) (M 2) c else M 2 := by first | exact (if_pos (show kReadyM (M 0) p r d = 0 from (by simp [kReadyM, c_13, c_24, c_40]; done))).symm | exact (if_neg (show ¬ kReadyM (M 0) p r d = 0 from (by simp [kReadyM, c_13, c_24, c_40]; done))).symm | rw [if_pos (show kReadyM (M 0) p r d = 0 from (by simp [kReadyM, c_13, c_24, c_40]; done))] | rw [if_neg (show ¬ kReadyM (M 0) p r d = 0 from (by simp [kReadyM, c_13, c_24, c_40]; done))]
        have hP : va_P K.1 vwCl (mw K h a (hput (hput (hrow (hrow M 0 (if kReadyM (M 0) p r d = 0 then upd (M 0) (70 + 6 * cN p + cN r) d else M 0)) 2 (if kReadyM (M 0) p r d = 0 then remP (M 0) (M 2) c else M 2)) 3 (nI (remC c))) 8 (0 : Int32))) H := by rw [← eR8]; exact hP
        have hD : va_D A (mw K h a (hput (hput (hrow (hrow M 0 (if kReadyM (M 0) p r d = 0 then upd (M 0) (70 + 6 * cN p + cN r) d else M 0)) 2 (if kReadyM (M 0) p r d = 0 then remP (M 0) (M 2) c else M 2)) 3 (nI (remC c))) 8 (0 : Int32))) := by rw [← eR8]; exact hD
        have eR9 : (nI (remC c)) = if kReadyM (M 0) p r d = 0 then nI (remC c) else M 3 0 := by first | exact (if_pos (show kReadyM (M 0) p r d = 0 from (by simp [kReadyM, c_13, c_24, c_40]; done))).symm | exact (if_neg (show ¬ kReadyM (M 0) p r d = 0 from (by simp [kReadyM, c_13, c_24, c_40]; done))).symm | rw [if_pos (show kReadyM (M 0) p r d = 0 from (by simp [kReadyM, c_13, c_24, c_40]; done))] | rw [if_neg (show ¬ kReadyM (M 0) p r d = 0 from (by simp [kReadyM, c_13, c_24, c_40]; done))]
        have hP : va_P K.1 vwCl (mw K h a (hput (hput (hrow (hrow M 0 (if kReadyM (M 0) p r d = 0 then upd (M 0) (70 + 6 * cN p + cN r) d else M 0)) 2 (if kReadyM (M 0) p r d = 0 then remP (M 0) (M 2) c else M 2)) 3 (if kReadyM (M 0) p r d = 0 then nI (remC c) else M 3 0)) 8 (0 : Int32))) H := by rw [← eR9]; exact hP
        have hD : va_D A (mw K h a (hput (hput (hrow (hrow M 0 (if kReadyM (M 0) p r d = 0 then upd (M 0) (70 + 6 * cN p + cN r) d else M 0)) 2 (if kReadyM (M 0) p r d = 0 then remP (M 0) (M 2) c else M 2)) 3 (if kReadyM (M 0) p r d = 0 then nI (remC c) else M 3 0)) 8 (0 : Int32))) := by rw [← eR9]; exact hD
        have eR10 : (0 : Int32) = nI (kReadyM (M 0) p r d) := by exact (congrArg nI (show kReadyM (M 0) p r d = _ from (by simp [kReadyM, c_13, c_24, c_40]; done))).symm
        have hP : va_P K.1 vwCl (mw K h a (hput (hput (hrow (hrow M 0 (if kReadyM (M 0) p r d = 0 then upd (M 0) (70 + 6 * cN p + cN r) d else M 0)) 2 (if kReadyM (M 0) p r d = 0 then remP (M 0) (M 2) c else M 2)) 3 (if kReadyM (M 0) p r d = 0 then nI (remC c) else M 3 0)) 8 (nI (kReadyM (M 0) p r d)))) H := by rw [← eR10]; exact hP
        have hD : va_D A (mw K h a (hput (hput (hrow (hrow M 0 (if kReadyM (M 0) p r d = 0 then upd (M 0) (70 + 6 * cN p + cN r) d else M 0)) 2 (if kReadyM (M 0) p r d = 0 then remP (M 0) (M 2) c else M 2)) 3 (if kReadyM (M 0) p r d = 0 then nI (remC c) else M 3 0)) 8 (nI (kReadyM (M 0) p r d)))) := by rw [← eR10]; exact hD
        exact hend _ _ _ _ _ _ _ () hP hD hS (Nat.le_of_ble_eq_true rfl) (Nat.le_of_ble_eq_true rfl) (by first | (intro hk9; rfl; done) | (intro hk9; simp [kReadyM, c_13, c_24, c_40] at hk9; done)) dX6_ready_81
      · skip
        refine lv_aload_n hx hb dX6_ready_43 rfl (lv_at hl 0 rfl) ?_
        refine lv_iconst (v := (2 : Int32)) hx hb dX6_ready_44 (by decide) ?_
        refine xw_Vi (As := [.int (2 : Int32)]) (rest := []) (wc := mw K h a (hput M 8 (0 : Int32))) (wr := (List.filterMap (fun i => (mw K h a (hput M 8 (0 : Int32)) : va_W)[i]?) ([] : List Nat))) ⟨hx, hb, hml, hown, hts⟩ (c_X6_fails l K h a (hput M 8 (0 : Int32)) (2 : Int32) H.size) (cwV 1 hts gX6_ready_X6_fails rfl rfl rfl (by decide +kernel) ⟨Nat.le_of_ble_eq_true rfl, Nat.le_of_ble_eq_true rfl⟩) hK hP hD hS hA [0, 1, 2, 3, 4, 5, 6, 7, 8, 9] [] [0, 1, 2, 3, 4, 5, 6, 7, 8, 9] rfl rfl rfl (fun _u => mw K h a (hput M 8 (2 : Int32))) (fun _ => rfl) 0 6 rfl rfl rfl rfl hl.1 rfl (Nat.le_of_ble_eq_true rfl) (Nat.le_of_ble_eq_true rfl) (Nat.le_of_ble_eq_true rfl) dX6_ready_45 (fun r45 _ H locs hq45 hP hD hS => ?_)
        have hP : va_P K.1 vwCl (mw K h a (hput M 8 (2 : Int32))) H := hP
        have hD : va_D A (mw K h a (hput M 8 (2 : Int32))) := hD
        subst hq45
        have hP : va_P K.1 vwCl (mw K h a (hput (hrow M 0 (M 0)) 8 (2 : Int32))) H := hP
        have hD : va_D A (mw K h a (hput (hrow M 0 (M 0)) 8 (2 : Int32))) := hD
        have eR11 : (M 0) = if kReadyM (M 0) p r d = 0 then upd (M 0) (70 + 6 * cN p + cN r) d else M 0 := by first | exact (if_pos (show kReadyM (M 0) p r d = 0 from (by simp [kReadyM, c_13, c_24, c_40]; done))).symm | exact (if_neg (show ¬ kReadyM (M 0) p r d = 0 from (by simp [kReadyM, c_13, c_24, c_40]; done))).symm | rw [if_pos (show kReadyM (M 0) p r d = 0 from (by simp [kReadyM, c_13, c_24, c_40]; done))] | rw [if_neg (show ¬ kReadyM (M 0) p r d = 0 from (by simp [kReadyM, c_13, c_24, c_40]; done))]
        have hP : va_P K.1 vwCl (mw K h a (hput (hrow M 0 (if kReadyM (M 0) p r d = 0 then upd (M 0) (70 + 6 * cN p + cN r) d else M 0)) 8 (2 : Int32))) H := by rw [← eR11]; exact hP
        have hD : va_D A (mw K h a (hput (hrow M 0 (if kReadyM (M 0) p r d = 0 then upd (M 0) (70 + 6 * cN p + cN r) d else M 0)) 8 (2 : Int32))) := by rw [← eR11]; exact hD
        have hP : va_P K.1 vwCl (mw K h a (hput (hrow (hrow M 0 (if kReadyM (M 0) p r d = 0 then upd (M 0) (70 + 6 * cN p + cN r) d else M 0)) 2 (M 2)) 8 (2 : Int32))) H := hP
        have hD : va_D A (mw K h a (hput (hrow (hrow M 0 (if kReadyM (M 0) p r d = 0 then upd (M 0) (70 + 6 * cN p + cN r) d else M 0)) 2 (M 2)) 8 (2 : Int32))) := hD
        have eR12 : (M 2) = if kReadyM (M 0) p r d = 0 then remP (M 0) (M 2) c else M 2 := by first | exact (if_pos (show kReadyM (M 0) p r d = 0 from (by simp [kReadyM, c_13, c_24, c_40]; done))).symm | exact (if_neg (show ¬ kReadyM (M 0) p r d = 0 from (by simp [kReadyM, c_13, c_24, c_40]; done))).symm | rw [if_pos (show kReadyM (M 0) p r d = 0 from (by simp [kReadyM, c_13, c_24, c_40]; done))] | rw [if_neg (show ¬ kReadyM (M 0) p r d = 0 from (by simp [kReadyM, c_13, c_24, c_40]; done))]
        have hP : va_P K.1 vwCl (mw K h a (hput (hrow (hrow M 0 (if kReadyM (M 0) p r d = 0 then upd (M 0) (70 + 6 * cN p + cN r) d else M 0)) 2 (if kReadyM (M 0) p r d = 0 then remP (M 0) (M 2) c else M 2)) 8 (2 : Int32))) H := by rw [← eR12]; exact hP
        have hD : va_D A (mw K h a (hput (hrow (hrow M 0 (if kReadyM (M 0) p r d = 0 then upd (M 0) (70 + 6 * cN p + cN r) d else M 0)) 2 (if kReadyM (M 0) p r d = 0 then remP (M 0) (M 2) c else M 2)) 8 (2 : Int32))) := by rw [← eR12]; exact hD
        have hP : va_P K.1 vwCl (mw K h a (hput (hput (hrow (hrow M 0 (if kReadyM (M 0) p r d = 0 then upd (M 0) (70 + 6 * cN p + cN r) d else M 0)) 2 (if kReadyM (M 0) p r d = 0 then remP (M 0) (M 2) c else M 2)) 3 ((M 3) 0)) 8 (2 : Int32))) H := hP
        have hD : va_D A (mw K h a (hput (hput (hrow (hrow M 0 (if kReadyM (M 0) p r d = 0 then upd (M 0) (70 + 6 * cN p + cN r) d else M 0)) 2 (if kReadyM (M 0) p r d = 0 then remP (M 0) (M 2) c else M 2)) 3 ((M 3) 0)) 8 (2 : Int32))) := hD
        have eR13 : ((M 3) 0) = if kReadyM (M 0) p r d = 0 then nI (remC c) else M 3 0 := by first | exact (if_pos (show kReadyM (M 0) p r d = 0 from (by simp [kReadyM, c_13, c_24, c_40]; done))).symm | exact (if_neg (show ¬ kReadyM (M 0) p r d = 0 from (by simp [kReadyM, c_13, c_24, c_40]; done))).symm | rw [if_pos (show kReadyM (M 0) p r d = 0 from (by simp [kReadyM, c_13, c_24, c_40]; done))] | rw [if_neg (show ¬ kReadyM (M 0) p r d = 0 from (by simp [kReadyM, c_13, c_24, c_40]; done))]
        rw [eR13] at hP hD
        have eR14 : (2 : Int32) = nI (kReadyM (M 0) p r d) := by exact (congrArg nI (show kReadyM (M 0) p r d = _ from (by simp [kReadyM, c_13, c_24, c_40]; done))).symm
        have hP : va_P K.1 vwCl (mw K h a (hput (hput (hrow (hrow M 0 (if kReadyM (M 0) p r d = 0 then upd (M 0) (70 + 6 * cN p + cN r) d else M 0)) 2 (if kReadyM (M 0) p r d = 0 then remP (M 0) (M 2) c else M 2)) 3 (if kReadyM (M 0) p r d = 0 then nI (remC c) else M 3 0)) 8 (nI (kReadyM (M 0) p r d)))) H := by rw [← eR14]; exact hP
        have hD : va_D A (mw K h a (hput (hput (hrow (hrow M 0 (if kReadyM (M 0) p r d = 0 then upd (M 0) (70 + 6 * cN p + cN r) d else M 0)) 2 (if kReadyM (M 0) p r d = 0 then remP (M 0) (M 2) c else M 2)) 3 (if kReadyM (M 0) p r d = 0 then nI (remC c) else M 3 0)) 8 (nI (kReadyM (M 0) p r d)))) := by rw [← eR14]; exact hD
        exact hend _ _ _ _ _ _ _ () hP hD hS (Nat.le_of_ble_eq_true rfl) (Nat.le_of_ble_eq_true rfl) (by first | (intro hk9; rfl; done) | (intro hk9; simp [kReadyM, c_13, c_24, c_40] at hk9; done)) dX6_ready_48
    · skip
      refine lv_aload_n hx hb dX6_ready_27 rfl (lv_at hl 0 rfl) ?_
      refine lv_iconst (v := (1 : Int32)) hx hb dX6_ready_28 (by decide) ?_
      refine xw_Vi (As := [.int (1 : Int32)]) (rest := []) (wc := mw K h a (hput M 8 (0 : Int32))) (wr := (List.filterMap (fun i => (mw K h a (hput M 8 (0 : Int32)) : va_W)[i]?) ([] : List Nat))) ⟨hx, hb, hml, hown, hts⟩ (c_X6_fails l K h a (hput M 8 (0 : Int32)) (1 : Int32) H.size) (cwV 1 hts gX6_ready_X6_fails rfl rfl rfl (by decide +kernel) ⟨Nat.le_of_ble_eq_true rfl, Nat.le_of_ble_eq_true rfl⟩) hK hP hD hS hA [0, 1, 2, 3, 4, 5, 6, 7, 8, 9] [] [0, 1, 2, 3, 4, 5, 6, 7, 8, 9] rfl rfl rfl (fun _u => mw K h a (hput M 8 (1 : Int32))) (fun _ => rfl) 0 6 rfl rfl rfl rfl hl.1 rfl (Nat.le_of_ble_eq_true rfl) (Nat.le_of_ble_eq_true rfl) (Nat.le_of_ble_eq_true rfl) dX6_ready_29 (fun r29 _ H locs hq29 hP hD hS => ?_)
      have hP : va_P K.1 vwCl (mw K h a (hput M 8 (1 : Int32))) H := hP
      have hD : va_D A (mw K h a (hput M 8 (1 : Int32))) := hD
      subst hq29
      have hP : va_P K.1 vwCl (mw K h a (hput (hrow M 0 (M 0)) 8 (1 : Int32))) H := hP
      have hD : va_D A (mw K h a (hput (hrow M 0 (M 0)) 8 (1 : Int32))) := hD
      have eR15 : (M 0) = if kReadyM (M 0) p r d = 0 then upd (M 0) (70 + 6 * cN p + cN r) d else M 0 := by first | exact (if_pos (show kReadyM (M 0) p r d = 0 from (by simp [kReadyM, c_13, c_24]; done))).symm | exact (if_neg (show ¬ kReadyM (M 0) p r d = 0 from (by simp [kReadyM, c_13, c_24]; done))).symm | rw [if_pos (show kReadyM (M 0) p r d = 0 from (by simp [kReadyM, c_13, c_24]; done))] | rw [if_neg (show ¬ kReadyM (M 0) p r d = 0 from (by simp [kReadyM, c_13, c_24]; done))]
      have hP : va_P K.1 vwCl (mw K h a (hput (hrow M 0 (if kReadyM (M 0) p r d = 0 then upd (M 0) (70 + 6 * cN p + cN r) d else M 0)) 8 (1 : Int32))) H := by rw [← eR15]; exact hP
      have hD : va_D A (mw K h a (hput (hrow M 0 (if kReadyM (M 0) p r d = 0 then upd (M 0) (70 + 6 * cN p + cN r) d else M 0)) 8 (1 : Int32))) := by rw [← eR15]; exact hD
      have hP : va_P K.1 vwCl (mw K h a (hput (hrow (hrow M 0 (if kReadyM (M 0) p r d = 0 then upd (M 0) (70 + 6 * cN p + cN r) d else M 0)) 2 (M 2)) 8 (1 : Int32))) H := hP
      have hD : va_D A (mw K h a (hput (hrow (hrow M 0 (if kReadyM (M 0) p r d = 0 then upd (M 0) (70 + 6 * cN p + cN r) d else M 0)) 2 (M 2)) 8 (1 : Int32))) := hD
      have eR16 : (M 2) = if kReadyM (M 0) p r d = 0 then remP (M 0) (M 2) c else M 2 := by first | exact (if_pos (show kReadyM (M 0) p r d = 0 from (by simp [kReadyM, c_13, c_24]; done))).symm | exact (if_neg (show ¬ kReadyM (M 0) p r d = 0 from (by simp [kReadyM, c_13, c_24]; done))).symm | rw [if_pos (show kReadyM (M 0) p r d = 0 from (by simp [kReadyM, c_13, c_24]; done))] | rw [if_neg (show ¬ kReadyM (M 0) p r d = 0 from (by simp [kReadyM, c_13, c_24]; done))]
      have hP : va_P K.1 vwCl (mw K h a (hput (hrow (hrow M 0 (if kReadyM (M 0) p r d = 0 then upd (M 0) (70 + 6 * cN p + cN r) d else M 0)) 2 (if kReadyM (M 0) p r d = 0 then remP (M 0) (M 2) c else M 2)) 8 (1 : Int32))) H := by rw [← eR16]; exact hP
      have hD : va_D A (mw K h a (hput (hrow (hrow M 0 (if kReadyM (M 0) p r d = 0 then upd (M 0) (70 + 6 * cN p + cN r) d else M 0)) 2 (if kReadyM (M 0) p r d = 0 then remP (M 0) (M 2) c else M 2)) 8 (1 : Int32))) := by rw [← eR16]; exact hD
      have hP : va_P K.1 vwCl (mw K h a (hput (hput (hrow (hrow M 0 (if kReadyM (M 0) p r d = 0 then upd (M 0) (70 + 6 * cN p + cN r) d else M 0)) 2 (if kReadyM (M 0) p r d = 0 then remP (M 0) (M 2) c else M 2)) 3 ((M 3) 0)) 8 (1 : Int32))) H := hP
      have hD : va_D A (mw K h a (hput (hput (hrow (hrow M 0 (if kReadyM (M 0) p r d = 0 then upd (M 0) (70 + 6 * cN p + cN r) d else M 0)) 2 (if kReadyM (M 0) p r d = 0 then remP (M 0) (M 2) c else M 2)) 3 ((M 3) 0)) 8 (1 : Int32))) := hD
      have eR17 : ((M 3) 0) = if kReadyM (M 0) p r d = 0 then nI (remC c) else M 3 0 := by first | exact (if_pos (show kReadyM (M 0) p r d = 0 from (by simp [kReadyM, c_13, c_24]; done))).symm | exact (if_neg (show ¬ kReadyM (M 0) p r d = 0 from (by simp [kReadyM, c_13, c_24]; done))).symm | rw [if_pos (show kReadyM (M 0) p r d = 0 from (by simp [kReadyM, c_13, c_24]; done))] | rw [if_neg (show ¬ kReadyM (M 0) p r d = 0 from (by simp [kReadyM, c_13, c_24]; done))]
      rw [eR17] at hP hD
      have eR18 : (1 : Int32) = nI (kReadyM (M 0) p r d) := by exact (congrArg nI (show kReadyM (M 0) p r d = _ from (by simp [kReadyM, c_13, c_24]; done))).symm
      have hP : va_P K.1 vwCl (mw K h a (hput (hput (hrow (hrow M 0 (if kReadyM (M 0) p r d = 0 then upd (M 0) (70 + 6 * cN p + cN r) d else M 0)) 2 (if kReadyM (M 0) p r d = 0 then remP (M 0) (M 2) c else M 2)) 3 (if kReadyM (M 0) p r d = 0 then nI (remC c) else M 3 0)) 8 (nI (kReadyM (M 0) p r d)))) H := by rw [← eR18]; exact hP
      have hD : va_D A (mw K h a (hput (hput (hrow (hrow M 0 (if kReadyM (M 0) p r d = 0 then upd (M 0) (70 + 6 * cN p + cN r) d else M 0)) 2 (if kReadyM (M 0) p r d = 0 then remP (M 0) (M 2) c else M 2)) 3 (if kReadyM (M 0) p r d = 0 then nI (remC c) else M 3 0)) 8 (nI (kReadyM (M 0) p r d)))) := by rw [← eR18]; exact hD
      exact hend _ _ _ _ _ _ _ () hP hD hS (Nat.le_of_ble_eq_true rfl) (Nat.le_of_ble_eq_true rfl) (by first | (intro hk9; rfl; done) | (intro hk9; simp [kReadyM, c_13, c_24] at hk9; done)) dX6_ready_32

abbrev rm_X6_first : Room := { frames := 2, cells := 0, slots := 0, locals := 45 }
set_option maxHeartbeats 4000000 in
set_option maxRecDepth 100000 in
theorem c_X6_first (l : Launch) (K : KX) (h : Nat) (a : Nat → Nat) (M : HV) (r : Int32) (p : Int32) (R : Nat) (hR0 : M 0 3 = nI R) (hR0b : R ≤ 6) (P : Nat) (hP0 : M 0 4 = nI P) (hP0b : P ≤ 10) (c : Nat) (hc0 : M 3 0 = nI c) (hc0b : c ≤ 14) (sz : Nat) : Met l yX6_first wsX6_first rm_X6_first (va_Pc [.ref h, .int r, .int p] (xPre K (mw K h a M) sz)) (va_Qi (fun (r9 : Int32) (_u : Unit) => kFirstM (M 0) r p = 0 → r9 = M 0 (18 + cN r)) (fun _u t => xPost K (va_A (mw K h a M) sz) (mw K h a (hput (hput (hrow (hrow M 0 (if kFirstM (M 0) r p = 0 then upd (M 0) (18 + cN r) p else M 0)) 2 (if kFirstM (M 0) r p = 0 then remP (M 0) (M 2) c else M 2)) 3 (if kFirstM (M 0) r p = 0 then nI (remC c) else M 3 0)) 8 (nI (kFirstM (M 0) r p)))) t) (va_A (mw K h a M) sz)) 0 0 (va_A (mw K h a M) sz) := by
  refine xw_starti (cc := cX6_first) (maxL := 4) (by decide) rfl (Nat.le_of_ble_eq_true rfl) ?_
  intro p9 e9 s9 m9 below9 meth9 c9 H locs ls A av9 Q9 hx hb hlocks hml hname hts hown hK hP hD hS hA hsz hend hl
  have hown : s9.vm.findClass RX6 = some m9.cls := hown
  have hl : lv_has ls 4 [(0, .ref h), (1, .int r), (2, .int p)] := hl
  have hi6 : ∀ w ∈ u_ws RX6 TX6 14, w ∈ wsX6_first := by decide +kernel
  have lk42 := hts (.fieldLink RX6 42 "StandInsModel" "thrown" "I") (by decide +kernel)
  have lk7 := hts (.fieldLink RX6 7 "StandInsModel" "now" "[I") (by decide +kernel)
  refine lv_aload_n hx hb dX6_first_0 rfl (lv_at hl 0 rfl) ?_
  refine lv_iconst (v := (0 : Int32)) hx hb dX6_first_1 (by decide) ?_
  refine va_put (ci := 6) (v := .int (0 : Int32)) (ty := .int) (C := RX6) (T := TX6) (N := 14) hx hb hts hi6 tyX6 tyX6_ok nmX6 hown hK hP hD hS 0 rfl rfl 8 (by decide) lk42 (fun _ h9 => h9) rfl (by decide +kernel) rfl rfl (Nat.le_of_ble_eq_true rfl) dX6_first_2 (fun H locs hP hD hS => ?_)
  have hP : va_P K.1 vwCl (mw K h a (hput M 8 (0 : Int32))) H := hP
  have hD : va_D A (mw K h a (hput M 8 (0 : Int32))) := hD
  refine lv_aload_n hx hb dX6_first_5 rfl (lv_at hl 0 rfl) ?_
  refine va_get (ci := 6) (v := .ref (a 0)) (C := RX6) (T := TX6) (N := 14) hx hb hts hi6 hown hK hP 0 rfl rfl 0 (by decide) lk7 (fun _ h9 => h9) rfl dX6_first_6 ?_
  refine lv_iload_n hx hb dX6_first_9 rfl (lv_at hl 1 rfl) ?_
  have hPc := P_sub (ws' := [((a 0), aI K 190 (M 0))]) hP [1] rfl
  refine xr_S (As := [.ref (a 0), .int r]) (rest := []) ⟨hx, hb, hml, hown, hts⟩ (c_X6_isRole l K (a 0) (M 0) r R hR0 (by omega)) (va_cwS 2 hts gX6_first_X6_isRole rfl rfl rfl (by decide +kernel) ⟨Nat.le_of_ble_eq_true rfl, Nat.le_of_ble_eq_true rfl⟩) hK hPc rfl hl.1 rfl (Nat.le_of_ble_eq_true rfl) (Nat.le_of_ble_eq_true rfl) (Nat.le_of_ble_eq_true rfl) dX6_first_10 ?_
  refine xb_if_eq (tgt := 27) hx hb dX6_first_13 (by decide) (fun c_13 => ?_) (fun c_13 => ?_)
  · skip
    refine lv_aload_n hx hb dX6_first_27 rfl (lv_at hl 0 rfl) ?_
    refine lv_iconst (v := (1 : Int32)) hx hb dX6_first_28 (by decide) ?_
    refine xw_Vi (As := [.int (1 : Int32)]) (rest := []) (wc := mw K h a (hput M 8 (0 : Int32))) (wr := (List.filterMap (fun i => (mw K h a (hput M 8 (0 : Int32)) : va_W)[i]?) ([] : List Nat))) ⟨hx, hb, hml, hown, hts⟩ (c_X6_fails l K h a (hput M 8 (0 : Int32)) (1 : Int32) H.size) (cwV 1 hts gX6_first_X6_fails rfl rfl rfl (by decide +kernel) ⟨Nat.le_of_ble_eq_true rfl, Nat.le_of_ble_eq_true rfl⟩) hK hP hD hS hA [0, 1, 2, 3, 4, 5, 6, 7, 8, 9] [] [0, 1, 2, 3, 4, 5, 6, 7, 8, 9] rfl rfl rfl (fun _u => mw K h a (hput M 8 (1 : Int32))) (fun _ => rfl) 0 6 rfl rfl rfl rfl hl.1 rfl (Nat.le_of_ble_eq_true rfl) (Nat.le_of_ble_eq_true rfl) (Nat.le_of_ble_eq_true rfl) dX6_first_29 (fun r29 _ H locs hq29 hP hD hS => ?_)
    have hP : va_P K.1 vwCl (mw K h a (hput M 8 (1 : Int32))) H := hP
    have hD : va_D A (mw K h a (hput M 8 (1 : Int32))) := hD
    subst hq29
    have hP : va_P K.1 vwCl (mw K h a (hput (hrow M 0 (M 0)) 8 (1 : Int32))) H := hP
    have hD : va_D A (mw K h a (hput (hrow M 0 (M 0)) 8 (1 : Int32))) := hD
    have eR1 : (M 0) = if kFirstM (M 0) r p = 0 then upd (M 0) (18 + cN r) p else M 0 := by first | exact (if_pos (show kFirstM (M 0) r p = 0 from (by simp [kFirstM, c_13]; done))).symm | exact (if_neg (show ¬ kFirstM (M 0) r p = 0 from (by simp [kFirstM, c_13]; done))).symm | rw [if_pos (show kFirstM (M 0) r p = 0 from (by simp [kFirstM, c_13]; done))] | rw [if_neg (show ¬ kFirstM (M 0) r p = 0 from (by simp [kFirstM, c_13]; done))]
    have hP : va_P K.1 vwCl (mw K h a (hput (hrow M 0 (if kFirstM (M 0) r p = 0 then upd (M 0) (18 + cN r) p else M 0)) 8 (1 : Int32))) H := by rw [← eR1]; exact hP
    have hD : va_D A (mw K h a (hput (hrow M 0 (if kFirstM (M 0) r p = 0 then upd (M 0) (18 + cN r) p else M 0)) 8 (1 : Int32))) := by rw [← eR1]; exact hD
    have hP : va_P K.1 vwCl (mw K h a (hput (hrow (hrow M 0 (if kFirstM (M 0) r p = 0 then upd (M 0) (18 + cN r) p else M 0)) 2 (M 2)) 8 (1 : Int32))) H := hP
    have hD : va_D A (mw K h a (hput (hrow (hrow M 0 (if kFirstM (M 0) r p = 0 then upd (M 0) (18 + cN r) p else M 0)) 2 (M 2)) 8 (1 : Int32))) := hD
    have eR2 : (M 2) = if kFirstM (M 0) r p = 0 then remP (M 0) (M 2) c else M 2 := by first | exact (if_pos (show kFirstM (M 0) r p = 0 from (by simp [kFirstM, c_13]; done))).symm | exact (if_neg (show ¬ kFirstM (M 0) r p = 0 from (by simp [kFirstM, c_13]; done))).symm | rw [if_pos (show kFirstM (M 0) r p = 0 from (by simp [kFirstM, c_13]; done))] | rw [if_neg (show ¬ kFirstM (M 0) r p = 0 from (by simp [kFirstM, c_13]; done))]
    have hP : va_P K.1 vwCl (mw K h a (hput (hrow (hrow M 0 (if kFirstM (M 0) r p = 0 then upd (M 0) (18 + cN r) p else M 0)) 2 (if kFirstM (M 0) r p = 0 then remP (M 0) (M 2) c else M 2)) 8 (1 : Int32))) H := by rw [← eR2]; exact hP
    have hD : va_D A (mw K h a (hput (hrow (hrow M 0 (if kFirstM (M 0) r p = 0 then upd (M 0) (18 + cN r) p else M 0)) 2 (if kFirstM (M 0) r p = 0 then remP (M 0) (M 2) c else M 2)) 8 (1 : Int32))) := by rw [← eR2]; exact hD
    have hP : va_P K.1 vwCl (mw K h a (hput (hput (hrow (hrow M 0 (if kFirstM (M 0) r p = 0 then upd (M 0) (18 + cN r) p else M 0)) 2 (if kFirstM (M 0) r p = 0 then remP (M 0) (M 2) c else M 2)) 3 ((M 3) 0)) 8 (1 : Int32))) H := hP
    have hD : va_D A (mw K h a (hput (hput (hrow (hrow M 0 (if kFirstM (M 0) r p = 0 then upd (M 0) (18 + cN r) p else M 0)) 2 (if kFirstM (M 0) r p = 0 then remP (M 0) (M 2) c else M 2)) 3 ((M 3) 0)) 8 (1 : Int32))) := hD
    have eR3 : ((M 3) 0) = if kFirstM (M 0) r p = 0 then nI (remC c) else M 3 0 := by first | exact (if_pos (show kFirstM (M 0) r p = 0 from (by simp [kFirstM, c_13]; done))).symm | exact (if_neg (show ¬ kFirstM (M 0) r p = 0 from (by simp [kFirstM, c_13]; done))).symm | rw [if_pos (show kFirstM (M 0) r p = 0 from (by simp [kFirstM, c_13]; done))] | rw [if_neg (show ¬ kFirstM (M 0) r p = 0 from (by simp [kFirstM, c_13]; done))]
    rw [eR3] at hP hD
    have eR4 : (1 : Int32) = nI (kFirstM (M 0) r p) := by exact (congrArg nI (show kFirstM (M 0) r p = _ from (by simp [kFirstM, c_13]; done))).symm
    have hP : va_P K.1 vwCl (mw K h a (hput (hput (hrow (hrow M 0 (if kFirstM (M 0) r p = 0 then upd (M 0) (18 + cN r) p else M 0)) 2 (if kFirstM (M 0) r p = 0 then remP (M 0) (M 2) c else M 2)) 3 (if kFirstM (M 0) r p = 0 then nI (remC c) else M 3 0)) 8 (nI (kFirstM (M 0) r p)))) H := by rw [← eR4]; exact hP
    have hD : va_D A (mw K h a (hput (hput (hrow (hrow M 0 (if kFirstM (M 0) r p = 0 then upd (M 0) (18 + cN r) p else M 0)) 2 (if kFirstM (M 0) r p = 0 then remP (M 0) (M 2) c else M 2)) 3 (if kFirstM (M 0) r p = 0 then nI (remC c) else M 3 0)) 8 (nI (kFirstM (M 0) r p)))) := by rw [← eR4]; exact hD
    exact hend _ _ _ _ _ _ _ () hP hD hS (Nat.le_of_ble_eq_true rfl) (Nat.le_of_ble_eq_true rfl) (by first | (intro hk9; rfl; done) | (intro hk9; simp [kFirstM, c_13] at hk9; done)) dX6_first_32
  · skip
    have hn5 := idx_cN hR0 (by omega) c_13
    refine lv_aload_n hx hb dX6_first_16 rfl (lv_at hl 0 rfl) ?_
    refine va_get (ci := 6) (v := .ref (a 0)) (C := RX6) (T := TX6) (N := 14) hx hb hts hi6 hown hK hP 0 rfl rfl 0 (by decide) lk7 (fun _ h9 => h9) rfl dX6_first_17 ?_
    refine lv_iload_n hx hb dX6_first_20 rfl (lv_at hl 2 rfl) ?_
    have hPc := P_sub (ws' := [((a 0), aI K 190 (M 0))]) hP [1] rfl
    refine xr_S (As := [.ref (a 0), .int p]) (rest := []) ⟨hx, hb, hml, hown, hts⟩ (c_X6_isPlayer l K (a 0) (M 0) p P hP0 (by omega)) (va_cwS 2 hts gX6_first_X6_isPlayer rfl rfl rfl (by decide +kernel) ⟨Nat.le_of_ble_eq_true rfl, Nat.le_of_ble_eq_true rfl⟩) hK hPc rfl hl.1 rfl (Nat.le_of_ble_eq_true rfl) (Nat.le_of_ble_eq_true rfl) (Nat.le_of_ble_eq_true rfl) dX6_first_21 ?_
    refine xb_if_ne (tgt := 33) hx hb dX6_first_24 (by decide) (fun c_24 => ?_) (fun c_24 => ?_)
    · skip
      have hn6 := idx_cN hP0 (by omega) c_24
      refine lv_aload_n hx hb dX6_first_33 rfl (lv_at hl 0 rfl) ?_
      refine xw_Vv (As := []) (rest := []) (wc := mw K h a (hput M 8 (0 : Int32))) (wr := (List.filterMap (fun i => (mw K h a (hput M 8 (0 : Int32)) : va_W)[i]?) ([] : List Nat))) ⟨hx, hb, hml, hown, hts⟩ (c_X6_remembers l K h a (hput M 8 (0 : Int32)) c hc0 (by omega) H.size) (cwV 0 hts gX6_first_X6_remembers rfl rfl rfl (by decide +kernel) ⟨Nat.le_of_ble_eq_true rfl, Nat.le_of_ble_eq_true rfl⟩) hK hP hD hS hA [0, 1, 2, 3, 4, 5, 6, 7, 8, 9] [] [0, 1, 2, 3, 4, 5, 6, 7, 8, 9] rfl rfl rfl (fun _u => mw K h a (hput (hput (hrow M 2 (remP (M 0) (M 2) c)) 3 (nI (remC c))) 8 (0 : Int32))) (fun _ => rfl) 0 6 rfl rfl rfl rfl hl.1 rfl (Nat.le_of_ble_eq_true rfl) (Nat.le_of_ble_eq_true rfl) (Nat.le_of_ble_eq_true rfl) dX6_first_34 (fun _ H locs hq34 hP hD hS => ?_)
      have hP : va_P K.1 vwCl (mw K h a (hput (hput (hrow M 2 (remP (M 0) (M 2) c)) 3 (nI (remC c))) 8 (0 : Int32))) H := hP
      have hD : va_D A (mw K h a (hput (hput (hrow M 2 (remP (M 0) (M 2) c)) 3 (nI (remC c))) 8 (0 : Int32))) := hD
      refine lv_aload_n hx hb dX6_first_37 rfl (lv_at hl 0 rfl) ?_
      refine va_get (ci := 6) (v := .ref (a 0)) (C := RX6) (T := TX6) (N := 14) hx hb hts hi6 hown hK hP 0 rfl rfl 0 (by decide) lk7 (fun _ h9 => h9) rfl dX6_first_38 ?_
      refine lv_bipush (v := (18 : Int32)) hx hb dX6_first_41 (by decide) ?_
      refine lv_iload_n hx hb dX6_first_43 rfl (lv_at hl 1 rfl) ?_
      refine lv_iadd hx hb dX6_first_44 ?_
      refine xi_ld hx hb hK hP 1 (f := M 0) rfl (18 + (cN r)) (nn_add rfl hn5.1) (by omega) (by decide) dX6_first_45 ?_
      refine lv_istore_n (lv' := [(3, .int (M 0 (18 + (cN r)))), (0, .ref h), (1, .int r), (2, .int p)]) hx hb dX6_first_46 rfl hl (by decide) rfl (fun ls hl => ?_)
      refine lv_aload_n hx hb dX6_first_47 rfl (lv_at hl 1 rfl) ?_
      refine va_get (ci := 6) (v := .ref (a 0)) (C := RX6) (T := TX6) (N := 14) hx hb hts hi6 hown hK hP 0 rfl rfl 0 (by decide) lk7 (fun _ h9 => h9) rfl dX6_first_48 ?_
      refine lv_bipush (v := (18 : Int32)) hx hb dX6_first_51 (by decide) ?_
      refine lv_iload_n hx hb dX6_first_53 rfl (lv_at hl 2 rfl) ?_
      refine lv_iadd hx hb dX6_first_54 ?_
      refine lv_iload_n hx hb dX6_first_55 rfl (lv_at hl 3 rfl) ?_
      refine xi_st hx hb hK hP hD hS 1 (f := M 0) rfl (18 + (cN r)) (nn_add rfl hn5.1) (by omega) (by decide) (mw K h a (hput (hput (hrow (hrow M 0 (upd (M 0) (18 + (cN r)) p)) 2 (remP (M 0) (M 2) c)) 3 (nI (remC c))) 8 (0 : Int32))) rfl dX6_first_56 (fun H locs hP hD hS => ?_)
      refine lv_iload_n hx hb dX6_first_57 rfl (lv_at hl 0 rfl) ?_
      have eR7 : (upd (M 0) (18 + (cN r)) p) = if kFirstM (M 0) r p = 0 then upd (M 0) (18 + cN r) p else M 0 := by first | exact (if_pos (show kFirstM (M 0) r p = 0 from (by simp [kFirstM, c_13, c_24]; done))).symm | exact (if_neg (show ¬ kFirstM (M 0) r p = 0 from (by simp [kFirstM, c_13, c_24]; done))).symm | rw [if_pos (show kFirstM (M 0) r p = 0 from (by simp [kFirstM, c_13, c_24]; done))] | rw [if_neg (show ¬ kFirstM (M 0) r p = 0 from (by simp [kFirstM, c_13, c_24]; done))]
      rw [eR7] at hP hD
      have eR8 : (remP (M 0) (M 2) c) = if kFirstM (M 0) r p = 0 then remP (M 0) (M 2) c else M 2 := by first | exact (if_pos (show kFirstM (M 0) r p = 0 from (by simp [kFirstM, c_13, c_24]; done))).symm | exact (if_neg (show ¬ kFirstM (M 0) r p = 0 from (by simp [kFirstM, c_13, c_24]; done))).symm | rw [if_pos (show kFirstM (M 0) r p = 0 from (by simp [kFirstM, c_13, c_24]; done))] | rw [if_neg (show ¬ kFirstM (M 0) r p = 0 from (by simp [kFirstM, c_13, c_24]; done))]
      have hP : va_P K.1 vwCl (mw K h a (hput (hput (hrow (hrow M 0 (if kFirstM (M 0) r p = 0 then upd (M 0) (18 + cN r) p else M 0)) 2 (if kFirstM (M 0) r p = 0 then remP (M 0) (M 2) c else M 2)) 3 (nI (remC c))) 8 (0 : Int32))) H := by rw [← eR8]; exact hP
      have hD : va_D A (mw K h a (hput (hput (hrow (hrow M 0 (if kFirstM (M 0) r p = 0 then upd (M 0) (18 + cN r) p else M 0)) 2 (if kFirstM (M 0) r p = 0 then remP (M 0) (M 2) c else M 2)) 3 (nI (remC c))) 8 (0 : Int32))) := by rw [← eR8]; exact hD
      have eR9 : (nI (remC c)) = if kFirstM (M 0) r p = 0 then nI (remC c) else M 3 0 := by first | exact (if_pos (show kFirstM (M 0) r p = 0 from (by simp [kFirstM, c_13, c_24]; done))).symm | exact (if_neg (show ¬ kFirstM (M 0) r p = 0 from (by simp [kFirstM, c_13, c_24]; done))).symm | rw [if_pos (show kFirstM (M 0) r p = 0 from (by simp [kFirstM, c_13, c_24]; done))] | rw [if_neg (show ¬ kFirstM (M 0) r p = 0 from (by simp [kFirstM, c_13, c_24]; done))]
      have hP : va_P K.1 vwCl (mw K h a (hput (hput (hrow (hrow M 0 (if kFirstM (M 0) r p = 0 then upd (M 0) (18 + cN r) p else M 0)) 2 (if kFirstM (M 0) r p = 0 then remP (M 0) (M 2) c else M 2)) 3 (if kFirstM (M 0) r p = 0 then nI (remC c) else M 3 0)) 8 (0 : Int32))) H := by rw [← eR9]; exact hP
      have hD : va_D A (mw K h a (hput (hput (hrow (hrow M 0 (if kFirstM (M 0) r p = 0 then upd (M 0) (18 + cN r) p else M 0)) 2 (if kFirstM (M 0) r p = 0 then remP (M 0) (M 2) c else M 2)) 3 (if kFirstM (M 0) r p = 0 then nI (remC c) else M 3 0)) 8 (0 : Int32))) := by rw [← eR9]; exact hD
      have eR10 : (0 : Int32) = nI (kFirstM (M 0) r p) := by exact (congrArg nI (show kFirstM (M 0) r p = _ from (by simp [kFirstM, c_13, c_24]; done))).symm
      have hP : va_P K.1 vwCl (mw K h a (hput (hput (hrow (hrow M 0 (if kFirstM (M 0) r p = 0 then upd (M 0) (18 + cN r) p else M 0)) 2 (if kFirstM (M 0) r p = 0 then remP (M 0) (M 2) c else M 2)) 3 (if kFirstM (M 0) r p = 0 then nI (remC c) else M 3 0)) 8 (nI (kFirstM (M 0) r p)))) H := by rw [← eR10]; exact hP
      have hD : va_D A (mw K h a (hput (hput (hrow (hrow M 0 (if kFirstM (M 0) r p = 0 then upd (M 0) (18 + cN r) p else M 0)) 2 (if kFirstM (M 0) r p = 0 then remP (M 0) (M 2) c else M 2)) 3 (if kFirstM (M 0) r p = 0 then nI (remC c) else M 3 0)) 8 (nI (kFirstM (M 0) r p)))) := by rw [← eR10]; exact hD
      exact hend _ _ _ _ _ _ _ () hP hD hS (Nat.le_of_ble_eq_true rfl) (Nat.le_of_ble_eq_true rfl) (by first | (intro hk9; rfl; done) | (intro hk9; simp [kFirstM, c_13, c_24] at hk9; done)) dX6_first_58
    · skip
      refine lv_aload_n hx hb dX6_first_27 rfl (lv_at hl 0 rfl) ?_
      refine lv_iconst (v := (1 : Int32)) hx hb dX6_first_28 (by decide) ?_
      refine xw_Vi (As := [.int (1 : Int32)]) (rest := []) (wc := mw K h a (hput M 8 (0 : Int32))) (wr := (List.filterMap (fun i => (mw K h a (hput M 8 (0 : Int32)) : va_W)[i]?) ([] : List Nat))) ⟨hx, hb, hml, hown, hts⟩ (c_X6_fails l K h a (hput M 8 (0 : Int32)) (1 : Int32) H.size) (cwV 1 hts gX6_first_X6_fails rfl rfl rfl (by decide +kernel) ⟨Nat.le_of_ble_eq_true rfl, Nat.le_of_ble_eq_true rfl⟩) hK hP hD hS hA [0, 1, 2, 3, 4, 5, 6, 7, 8, 9] [] [0, 1, 2, 3, 4, 5, 6, 7, 8, 9] rfl rfl rfl (fun _u => mw K h a (hput M 8 (1 : Int32))) (fun _ => rfl) 0 6 rfl rfl rfl rfl hl.1 rfl (Nat.le_of_ble_eq_true rfl) (Nat.le_of_ble_eq_true rfl) (Nat.le_of_ble_eq_true rfl) dX6_first_29 (fun r29 _ H locs hq29 hP hD hS => ?_)
      have hP : va_P K.1 vwCl (mw K h a (hput M 8 (1 : Int32))) H := hP
      have hD : va_D A (mw K h a (hput M 8 (1 : Int32))) := hD
      subst hq29
      have hP : va_P K.1 vwCl (mw K h a (hput (hrow M 0 (M 0)) 8 (1 : Int32))) H := hP
      have hD : va_D A (mw K h a (hput (hrow M 0 (M 0)) 8 (1 : Int32))) := hD
      have eR11 : (M 0) = if kFirstM (M 0) r p = 0 then upd (M 0) (18 + cN r) p else M 0 := by first | exact (if_pos (show kFirstM (M 0) r p = 0 from (by simp [kFirstM, c_13, c_24]; done))).symm | exact (if_neg (show ¬ kFirstM (M 0) r p = 0 from (by simp [kFirstM, c_13, c_24]; done))).symm | rw [if_pos (show kFirstM (M 0) r p = 0 from (by simp [kFirstM, c_13, c_24]; done))] | rw [if_neg (show ¬ kFirstM (M 0) r p = 0 from (by simp [kFirstM, c_13, c_24]; done))]
      have hP : va_P K.1 vwCl (mw K h a (hput (hrow M 0 (if kFirstM (M 0) r p = 0 then upd (M 0) (18 + cN r) p else M 0)) 8 (1 : Int32))) H := by rw [← eR11]; exact hP
      have hD : va_D A (mw K h a (hput (hrow M 0 (if kFirstM (M 0) r p = 0 then upd (M 0) (18 + cN r) p else M 0)) 8 (1 : Int32))) := by rw [← eR11]; exact hD
      have hP : va_P K.1 vwCl (mw K h a (hput (hrow (hrow M 0 (if kFirstM (M 0) r p = 0 then upd (M 0) (18 + cN r) p else M 0)) 2 (M 2)) 8 (1 : Int32))) H := hP
      have hD : va_D A (mw K h a (hput (hrow (hrow M 0 (if kFirstM (M 0) r p = 0 then upd (M 0) (18 + cN r) p else M 0)) 2 (M 2)) 8 (1 : Int32))) := hD
      have eR12 : (M 2) = if kFirstM (M 0) r p = 0 then remP (M 0) (M 2) c else M 2 := by first | exact (if_pos (show kFirstM (M 0) r p = 0 from (by simp [kFirstM, c_13, c_24]; done))).symm | exact (if_neg (show ¬ kFirstM (M 0) r p = 0 from (by simp [kFirstM, c_13, c_24]; done))).symm | rw [if_pos (show kFirstM (M 0) r p = 0 from (by simp [kFirstM, c_13, c_24]; done))] | rw [if_neg (show ¬ kFirstM (M 0) r p = 0 from (by simp [kFirstM, c_13, c_24]; done))]
      have hP : va_P K.1 vwCl (mw K h a (hput (hrow (hrow M 0 (if kFirstM (M 0) r p = 0 then upd (M 0) (18 + cN r) p else M 0)) 2 (if kFirstM (M 0) r p = 0 then remP (M 0) (M 2) c else M 2)) 8 (1 : Int32))) H := by rw [← eR12]; exact hP
      have hD : va_D A (mw K h a (hput (hrow (hrow M 0 (if kFirstM (M 0) r p = 0 then upd (M 0) (18 + cN r) p else M 0)) 2 (if kFirstM (M 0) r p = 0 then remP (M 0) (M 2) c else M 2)) 8 (1 : Int32))) := by rw [← eR12]; exact hD
      have hP : va_P K.1 vwCl (mw K h a (hput (hput (hrow (hrow M 0 (if kFirstM (M 0) r p = 0 then upd (M 0) (18 + cN r) p else M 0)) 2 (if kFirstM (M 0) r p = 0 then remP (M 0) (M 2) c else M 2)) 3 ((M 3) 0)) 8 (1 : Int32))) H := hP
      have hD : va_D A (mw K h a (hput (hput (hrow (hrow M 0 (if kFirstM (M 0) r p = 0 then upd (M 0) (18 + cN r) p else M 0)) 2 (if kFirstM (M 0) r p = 0 then remP (M 0) (M 2) c else M 2)) 3 ((M 3) 0)) 8 (1 : Int32))) := hD
      have eR13 : ((M 3) 0) = if kFirstM (M 0) r p = 0 then nI (remC c) else M 3 0 := by first | exact (if_pos (show kFirstM (M 0) r p = 0 from (by simp [kFirstM, c_13, c_24]; done))).symm | exact (if_neg (show ¬ kFirstM (M 0) r p = 0 from (by simp [kFirstM, c_13, c_24]; done))).symm | rw [if_pos (show kFirstM (M 0) r p = 0 from (by simp [kFirstM, c_13, c_24]; done))] | rw [if_neg (show ¬ kFirstM (M 0) r p = 0 from (by simp [kFirstM, c_13, c_24]; done))]
      rw [eR13] at hP hD
      have eR14 : (1 : Int32) = nI (kFirstM (M 0) r p) := by exact (congrArg nI (show kFirstM (M 0) r p = _ from (by simp [kFirstM, c_13, c_24]; done))).symm
      have hP : va_P K.1 vwCl (mw K h a (hput (hput (hrow (hrow M 0 (if kFirstM (M 0) r p = 0 then upd (M 0) (18 + cN r) p else M 0)) 2 (if kFirstM (M 0) r p = 0 then remP (M 0) (M 2) c else M 2)) 3 (if kFirstM (M 0) r p = 0 then nI (remC c) else M 3 0)) 8 (nI (kFirstM (M 0) r p)))) H := by rw [← eR14]; exact hP
      have hD : va_D A (mw K h a (hput (hput (hrow (hrow M 0 (if kFirstM (M 0) r p = 0 then upd (M 0) (18 + cN r) p else M 0)) 2 (if kFirstM (M 0) r p = 0 then remP (M 0) (M 2) c else M 2)) 3 (if kFirstM (M 0) r p = 0 then nI (remC c) else M 3 0)) 8 (nI (kFirstM (M 0) r p)))) := by rw [← eR14]; exact hD
      exact hend _ _ _ _ _ _ _ () hP hD hS (Nat.le_of_ble_eq_true rfl) (Nat.le_of_ble_eq_true rfl) (by first | (intro hk9; rfl; done) | (intro hk9; simp [kFirstM, c_13, c_24] at hk9; done)) dX6_first_32

abbrev rm_X6_away : Room := { frames := 2, cells := 0, slots := 0, locals := 45 }
set_option maxHeartbeats 4000000 in
set_option maxRecDepth 100000 in
theorem c_X6_away (l : Launch) (K : KX) (h : Nat) (a : Nat → Nat) (M : HV) (p : Int32) (d : Int32) (P : Nat) (hP0 : M 0 4 = nI P) (hP0b : P ≤ 10) (c : Nat) (hc0 : M 3 0 = nI c) (hc0b : c ≤ 14) (sz : Nat) : Met l yX6_away wsX6_away rm_X6_away (va_Pc [.ref h, .int p, .int d] (xPre K (mw K h a M) sz)) (va_Qi (fun (r9 : Int32) (_u : Unit) => kAwayM (M 0) p d = 0 → r9 = M 0 0 + d) (fun _u t => xPost K (va_A (mw K h a M) sz) (mw K h a (hput (hput (hrow (hrow M 0 (if kAwayM (M 0) p d = 0 then upd (M 0) (50 + cN p) (M 0 0 + d) else M 0)) 2 (if kAwayM (M 0) p d = 0 then remP (M 0) (M 2) c else M 2)) 3 (if kAwayM (M 0) p d = 0 then nI (remC c) else M 3 0)) 8 (nI (kAwayM (M 0) p d)))) t) (va_A (mw K h a M) sz)) 0 0 (va_A (mw K h a M) sz) := by
  refine xw_starti (cc := cX6_away) (maxL := 3) (by decide) rfl (Nat.le_of_ble_eq_true rfl) ?_
  intro p9 e9 s9 m9 below9 meth9 c9 H locs ls A av9 Q9 hx hb hlocks hml hname hts hown hK hP hD hS hA hsz hend hl
  have hown : s9.vm.findClass RX6 = some m9.cls := hown
  have hl : lv_has ls 3 [(0, .ref h), (1, .int p), (2, .int d)] := hl
  have hi6 : ∀ w ∈ u_ws RX6 TX6 14, w ∈ wsX6_away := by decide +kernel
  have lk42 := hts (.fieldLink RX6 42 "StandInsModel" "thrown" "I") (by decide +kernel)
  have lk7 := hts (.fieldLink RX6 7 "StandInsModel" "now" "[I") (by decide +kernel)
  refine lv_aload_n hx hb dX6_away_0 rfl (lv_at hl 0 rfl) ?_
  refine lv_iconst (v := (0 : Int32)) hx hb dX6_away_1 (by decide) ?_
  refine va_put (ci := 6) (v := .int (0 : Int32)) (ty := .int) (C := RX6) (T := TX6) (N := 14) hx hb hts hi6 tyX6 tyX6_ok nmX6 hown hK hP hD hS 0 rfl rfl 8 (by decide) lk42 (fun _ h9 => h9) rfl (by decide +kernel) rfl rfl (Nat.le_of_ble_eq_true rfl) dX6_away_2 (fun H locs hP hD hS => ?_)
  have hP : va_P K.1 vwCl (mw K h a (hput M 8 (0 : Int32))) H := hP
  have hD : va_D A (mw K h a (hput M 8 (0 : Int32))) := hD
  refine lv_aload_n hx hb dX6_away_5 rfl (lv_at hl 0 rfl) ?_
  refine va_get (ci := 6) (v := .ref (a 0)) (C := RX6) (T := TX6) (N := 14) hx hb hts hi6 hown hK hP 0 rfl rfl 0 (by decide) lk7 (fun _ h9 => h9) rfl dX6_away_6 ?_
  refine lv_iload_n hx hb dX6_away_9 rfl (lv_at hl 1 rfl) ?_
  have hPc := P_sub (ws' := [((a 0), aI K 190 (M 0))]) hP [1] rfl
  refine xr_S (As := [.ref (a 0), .int p]) (rest := []) ⟨hx, hb, hml, hown, hts⟩ (c_X6_isPlayer l K (a 0) (M 0) p P hP0 (by omega)) (va_cwS 2 hts gX6_away_X6_isPlayer rfl rfl rfl (by decide +kernel) ⟨Nat.le_of_ble_eq_true rfl, Nat.le_of_ble_eq_true rfl⟩) hK hPc rfl hl.1 rfl (Nat.le_of_ble_eq_true rfl) (Nat.le_of_ble_eq_true rfl) (Nat.le_of_ble_eq_true rfl) dX6_away_10 ?_
  refine xb_if_ne (tgt := 22) hx hb dX6_away_13 (by decide) (fun c_13 => ?_) (fun c_13 => ?_)
  · skip
    have hn1 := idx_cN hP0 (by omega) c_13
    refine lv_iload_n hx hb dX6_away_22 rfl (lv_at hl 2 rfl) ?_
    refine lv_iconst (v := (1 : Int32)) hx hb dX6_away_23 (by decide) ?_
    refine lv_bipush (v := (99 : Int32)) hx hb dX6_away_24 (by decide) ?_
    have hPc := P_sub (ws' := []) hP [] rfl
    refine xr_S (As := [.int d, .int (1 : Int32), .int (99 : Int32)]) (rest := []) ⟨hx, hb, hml, hown, hts⟩ (c_X6_in l K d (1 : Int32) (99 : Int32)) (va_cwS 3 hts gX6_away_X6_in rfl rfl rfl (by decide +kernel) ⟨Nat.le_of_ble_eq_true rfl, Nat.le_of_ble_eq_true rfl⟩) hK hPc rfl hl.1 rfl (Nat.le_of_ble_eq_true rfl) (Nat.le_of_ble_eq_true rfl) (Nat.le_of_ble_eq_true rfl) dX6_away_26 ?_
    refine xb_if_ne (tgt := 38) hx hb dX6_away_29 (by decide) (fun c_29 => ?_) (fun c_29 => ?_)
    · skip
      refine lv_aload_n hx hb dX6_away_38 rfl (lv_at hl 0 rfl) ?_
      refine xw_Vv (As := []) (rest := []) (wc := mw K h a (hput M 8 (0 : Int32))) (wr := (List.filterMap (fun i => (mw K h a (hput M 8 (0 : Int32)) : va_W)[i]?) ([] : List Nat))) ⟨hx, hb, hml, hown, hts⟩ (c_X6_remembers l K h a (hput M 8 (0 : Int32)) c hc0 (by omega) H.size) (cwV 0 hts gX6_away_X6_remembers rfl rfl rfl (by decide +kernel) ⟨Nat.le_of_ble_eq_true rfl, Nat.le_of_ble_eq_true rfl⟩) hK hP hD hS hA [0, 1, 2, 3, 4, 5, 6, 7, 8, 9] [] [0, 1, 2, 3, 4, 5, 6, 7, 8, 9] rfl rfl rfl (fun _u => mw K h a (hput (hput (hrow M 2 (remP (M 0) (M 2) c)) 3 (nI (remC c))) 8 (0 : Int32))) (fun _ => rfl) 0 6 rfl rfl rfl rfl hl.1 rfl (Nat.le_of_ble_eq_true rfl) (Nat.le_of_ble_eq_true rfl) (Nat.le_of_ble_eq_true rfl) dX6_away_39 (fun _ H locs hq39 hP hD hS => ?_)
      have hP : va_P K.1 vwCl (mw K h a (hput (hput (hrow M 2 (remP (M 0) (M 2) c)) 3 (nI (remC c))) 8 (0 : Int32))) H := hP
      have hD : va_D A (mw K h a (hput (hput (hrow M 2 (remP (M 0) (M 2) c)) 3 (nI (remC c))) 8 (0 : Int32))) := hD
      refine lv_aload_n hx hb dX6_away_42 rfl (lv_at hl 0 rfl) ?_
      refine va_get (ci := 6) (v := .ref (a 0)) (C := RX6) (T := TX6) (N := 14) hx hb hts hi6 hown hK hP 0 rfl rfl 0 (by decide) lk7 (fun _ h9 => h9) rfl dX6_away_43 ?_
      refine lv_bipush (v := (50 : Int32)) hx hb dX6_away_46 (by decide) ?_
      refine lv_iload_n hx hb dX6_away_48 rfl (lv_at hl 1 rfl) ?_
      refine lv_iadd hx hb dX6_away_49 ?_
      refine lv_aload_n hx hb dX6_away_50 rfl (lv_at hl 0 rfl) ?_
      refine va_get (ci := 6) (v := .ref (a 0)) (C := RX6) (T := TX6) (N := 14) hx hb hts hi6 hown hK hP 0 rfl rfl 0 (by decide) lk7 (fun _ h9 => h9) rfl dX6_away_51 ?_
      refine lv_iconst (v := (0 : Int32)) hx hb dX6_away_54 (by decide) ?_
      refine xi_ld hx hb hK hP 1 (f := M 0) rfl 0 rfl (by omega) (by decide) dX6_away_55 ?_
      refine lv_iload_n hx hb dX6_away_56 rfl (lv_at hl 2 rfl) ?_
      refine lv_iadd hx hb dX6_away_57 ?_
      refine xi_st hx hb hK hP hD hS 1 (f := M 0) rfl (50 + (cN p)) (nn_add rfl hn1.1) (by omega) (by decide) (mw K h a (hput (hput (hrow (hrow M 0 (upd (M 0) (50 + (cN p)) ((M 0 0) + d))) 2 (remP (M 0) (M 2) c)) 3 (nI (remC c))) 8 (0 : Int32))) rfl dX6_away_58 (fun H locs hP hD hS => ?_)
      refine lv_aload_n hx hb dX6_away_59 rfl (lv_at hl 0 rfl) ?_
      refine va_get (ci := 6) (v := .ref (a 0)) (C := RX6) (T := TX6) (N := 14) hx hb hts hi6 hown hK hP 0 rfl rfl 0 (by decide) lk7 (fun _ h9 => h9) rfl dX6_away_60 ?_
      refine lv_bipush (v := (50 : Int32)) hx hb dX6_away_63 (by decide) ?_
      refine lv_iload_n hx hb dX6_away_65 rfl (lv_at hl 1 rfl) ?_
      refine lv_iadd hx hb dX6_away_66 ?_
      refine xi_ld hx hb hK hP 1 (f := (upd (M 0) (50 + (cN p)) ((M 0 0) + d))) rfl (50 + (cN p)) (nn_add rfl hn1.1) (by omega) (by decide) dX6_away_67 ?_
      rw [show (upd (M 0) (50 + (cN p)) ((M 0 0) + d)) (50 + (cN p)) = ((M 0 0) + d) from pk_us]
      have eR2 : (upd (M 0) (50 + (cN p)) ((M 0 0) + d)) = if kAwayM (M 0) p d = 0 then upd (M 0) (50 + cN p) (M 0 0 + d) else M 0 := by first | exact (if_pos (show kAwayM (M 0) p d = 0 from (by simp [kAwayM, c_13, c_29]; done))).symm | exact (if_neg (show ¬ kAwayM (M 0) p d = 0 from (by simp [kAwayM, c_13, c_29]; done))).symm | rw [if_pos (show kAwayM (M 0) p d = 0 from (by simp [kAwayM, c_13, c_29]; done))] | rw [if_neg (show ¬ kAwayM (M 0) p d = 0 from (by simp [kAwayM, c_13, c_29]; done))]
      rw [eR2] at hP hD
      have eR3 : (remP (M 0) (M 2) c) = if kAwayM (M 0) p d = 0 then remP (M 0) (M 2) c else M 2 := by first | exact (if_pos (show kAwayM (M 0) p d = 0 from (by simp [kAwayM, c_13, c_29]; done))).symm | exact (if_neg (show ¬ kAwayM (M 0) p d = 0 from (by simp [kAwayM, c_13, c_29]; done))).symm | rw [if_pos (show kAwayM (M 0) p d = 0 from (by simp [kAwayM, c_13, c_29]; done))] | rw [if_neg (show ¬ kAwayM (M 0) p d = 0 from (by simp [kAwayM, c_13, c_29]; done))]
      have hP : va_P K.1 vwCl (mw K h a (hput (hput (hrow (hrow M 0 (if kAwayM (M 0) p d = 0 then upd (M 0) (50 + cN p) (M 0 0 + d) else M 0)) 2 (if kAwayM (M 0) p d = 0 then remP (M 0) (M 2) c else M 2)) 3 (nI (remC c))) 8 (0 : Int32))) H := by rw [← eR3]; exact hP
      have hD : va_D A (mw K h a (hput (hput (hrow (hrow M 0 (if kAwayM (M 0) p d = 0 then upd (M 0) (50 + cN p) (M 0 0 + d) else M 0)) 2 (if kAwayM (M 0) p d = 0 then remP (M 0) (M 2) c else M 2)) 3 (nI (remC c))) 8 (0 : Int32))) := by rw [← eR3]; exact hD
      have eR4 : (nI (remC c)) = if kAwayM (M 0) p d = 0 then nI (remC c) else M 3 0 := by first | exact (if_pos (show kAwayM (M 0) p d = 0 from (by simp [kAwayM, c_13, c_29]; done))).symm | exact (if_neg (show ¬ kAwayM (M 0) p d = 0 from (by simp [kAwayM, c_13, c_29]; done))).symm | rw [if_pos (show kAwayM (M 0) p d = 0 from (by simp [kAwayM, c_13, c_29]; done))] | rw [if_neg (show ¬ kAwayM (M 0) p d = 0 from (by simp [kAwayM, c_13, c_29]; done))]
      have hP : va_P K.1 vwCl (mw K h a (hput (hput (hrow (hrow M 0 (if kAwayM (M 0) p d = 0 then upd (M 0) (50 + cN p) (M 0 0 + d) else M 0)) 2 (if kAwayM (M 0) p d = 0 then remP (M 0) (M 2) c else M 2)) 3 (if kAwayM (M 0) p d = 0 then nI (remC c) else M 3 0)) 8 (0 : Int32))) H := by rw [← eR4]; exact hP
      have hD : va_D A (mw K h a (hput (hput (hrow (hrow M 0 (if kAwayM (M 0) p d = 0 then upd (M 0) (50 + cN p) (M 0 0 + d) else M 0)) 2 (if kAwayM (M 0) p d = 0 then remP (M 0) (M 2) c else M 2)) 3 (if kAwayM (M 0) p d = 0 then nI (remC c) else M 3 0)) 8 (0 : Int32))) := by rw [← eR4]; exact hD
      have eR5 : (0 : Int32) = nI (kAwayM (M 0) p d) := by exact (congrArg nI (show kAwayM (M 0) p d = _ from (by simp [kAwayM, c_13, c_29]; done))).symm
      have hP : va_P K.1 vwCl (mw K h a (hput (hput (hrow (hrow M 0 (if kAwayM (M 0) p d = 0 then upd (M 0) (50 + cN p) (M 0 0 + d) else M 0)) 2 (if kAwayM (M 0) p d = 0 then remP (M 0) (M 2) c else M 2)) 3 (if kAwayM (M 0) p d = 0 then nI (remC c) else M 3 0)) 8 (nI (kAwayM (M 0) p d)))) H := by rw [← eR5]; exact hP
      have hD : va_D A (mw K h a (hput (hput (hrow (hrow M 0 (if kAwayM (M 0) p d = 0 then upd (M 0) (50 + cN p) (M 0 0 + d) else M 0)) 2 (if kAwayM (M 0) p d = 0 then remP (M 0) (M 2) c else M 2)) 3 (if kAwayM (M 0) p d = 0 then nI (remC c) else M 3 0)) 8 (nI (kAwayM (M 0) p d)))) := by rw [← eR5]; exact hD
      exact hend _ _ _ _ _ _ _ () hP hD hS (Nat.le_of_ble_eq_true rfl) (Nat.le_of_ble_eq_true rfl) (by first | (intro hk9; rfl; done) | (intro hk9; simp [kAwayM, c_13, c_29] at hk9; done)) dX6_away_68
    · skip
      refine lv_aload_n hx hb dX6_away_32 rfl (lv_at hl 0 rfl) ?_
      refine lv_iconst (v := (2 : Int32)) hx hb dX6_away_33 (by decide) ?_
      refine xw_Vi (As := [.int (2 : Int32)]) (rest := []) (wc := mw K h a (hput M 8 (0 : Int32))) (wr := (List.filterMap (fun i => (mw K h a (hput M 8 (0 : Int32)) : va_W)[i]?) ([] : List Nat))) ⟨hx, hb, hml, hown, hts⟩ (c_X6_fails l K h a (hput M 8 (0 : Int32)) (2 : Int32) H.size) (cwV 1 hts gX6_away_X6_fails rfl rfl rfl (by decide +kernel) ⟨Nat.le_of_ble_eq_true rfl, Nat.le_of_ble_eq_true rfl⟩) hK hP hD hS hA [0, 1, 2, 3, 4, 5, 6, 7, 8, 9] [] [0, 1, 2, 3, 4, 5, 6, 7, 8, 9] rfl rfl rfl (fun _u => mw K h a (hput M 8 (2 : Int32))) (fun _ => rfl) 0 6 rfl rfl rfl rfl hl.1 rfl (Nat.le_of_ble_eq_true rfl) (Nat.le_of_ble_eq_true rfl) (Nat.le_of_ble_eq_true rfl) dX6_away_34 (fun r34 _ H locs hq34 hP hD hS => ?_)
      have hP : va_P K.1 vwCl (mw K h a (hput M 8 (2 : Int32))) H := hP
      have hD : va_D A (mw K h a (hput M 8 (2 : Int32))) := hD
      subst hq34
      have hP : va_P K.1 vwCl (mw K h a (hput (hrow M 0 (M 0)) 8 (2 : Int32))) H := hP
      have hD : va_D A (mw K h a (hput (hrow M 0 (M 0)) 8 (2 : Int32))) := hD
      have eR6 : (M 0) = if kAwayM (M 0) p d = 0 then upd (M 0) (50 + cN p) (M 0 0 + d) else M 0 := by first | exact (if_pos (show kAwayM (M 0) p d = 0 from (by simp [kAwayM, c_13, c_29]; done))).symm | exact (if_neg (show ¬ kAwayM (M 0) p d = 0 from (by simp [kAwayM, c_13, c_29]; done))).symm | rw [if_pos (show kAwayM (M 0) p d = 0 from (by simp [kAwayM, c_13, c_29]; done))] | rw [if_neg (show ¬ kAwayM (M 0) p d = 0 from (by simp [kAwayM, c_13, c_29]; done))]
      have hP : va_P K.1 vwCl (mw K h a (hput (hrow M 0 (if kAwayM (M 0) p d = 0 then upd (M 0) (50 + cN p) (M 0 0 + d) else M 0)) 8 (2 : Int32))) H := by rw [← eR6]; exact hP
      have hD : va_D A (mw K h a (hput (hrow M 0 (if kAwayM (M 0) p d = 0 then upd (M 0) (50 + cN p) (M 0 0 + d) else M 0)) 8 (2 : Int32))) := by rw [← eR6]; exact hD
      have hP : va_P K.1 vwCl (mw K h a (hput (hrow (hrow M 0 (if kAwayM (M 0) p d = 0 then upd (M 0) (50 + cN p) (M 0 0 + d) else M 0)) 2 (M 2)) 8 (2 : Int32))) H := hP
      have hD : va_D A (mw K h a (hput (hrow (hrow M 0 (if kAwayM (M 0) p d = 0 then upd (M 0) (50 + cN p) (M 0 0 + d) else M 0)) 2 (M 2)) 8 (2 : Int32))) := hD
      have eR7 : (M 2) = if kAwayM (M 0) p d = 0 then remP (M 0) (M 2) c else M 2 := by first | exact (if_pos (show kAwayM (M 0) p d = 0 from (by simp [kAwayM, c_13, c_29]; done))).symm | exact (if_neg (show ¬ kAwayM (M 0) p d = 0 from (by simp [kAwayM, c_13, c_29]; done))).symm | rw [if_pos (show kAwayM (M 0) p d = 0 from (by simp [kAwayM, c_13, c_29]; done))] | rw [if_neg (show ¬ kAwayM (M 0) p d = 0 from (by simp [kAwayM, c_13, c_29]; done))]
      have hP : va_P K.1 vwCl (mw K h a (hput (hrow (hrow M 0 (if kAwayM (M 0) p d = 0 then upd (M 0) (50 + cN p) (M 0 0 + d) else M 0)) 2 (if kAwayM (M 0) p d = 0 then remP (M 0) (M 2) c else M 2)) 8 (2 : Int32))) H := by rw [← eR7]; exact hP
      have hD : va_D A (mw K h a (hput (hrow (hrow M 0 (if kAwayM (M 0) p d = 0 then upd (M 0) (50 + cN p) (M 0 0 + d) else M 0)) 2 (if kAwayM (M 0) p d = 0 then remP (M 0) (M 2) c else M 2)) 8 (2 : Int32))) := by rw [← eR7]; exact hD
      have hP : va_P K.1 vwCl (mw K h a (hput (hput (hrow (hrow M 0 (if kAwayM (M 0) p d = 0 then upd (M 0) (50 + cN p) (M 0 0 + d) else M 0)) 2 (if kAwayM (M 0) p d = 0 then remP (M 0) (M 2) c else M 2)) 3 ((M 3) 0)) 8 (2 : Int32))) H := hP
      have hD : va_D A (mw K h a (hput (hput (hrow (hrow M 0 (if kAwayM (M 0) p d = 0 then upd (M 0) (50 + cN p) (M 0 0 + d) else M 0)) 2 (if kAwayM (M 0) p d = 0 then remP (M 0) (M 2) c else M 2)) 3 ((M 3) 0)) 8 (2 : Int32))) := hD
      have eR8 : ((M 3) 0) = if kAwayM (M 0) p d = 0 then nI (remC c) else M 3 0 := by first | exact (if_pos (show kAwayM (M 0) p d = 0 from (by simp [kAwayM, c_13, c_29]; done))).symm | exact (if_neg (show ¬ kAwayM (M 0) p d = 0 from (by simp [kAwayM, c_13, c_29]; done))).symm | rw [if_pos (show kAwayM (M 0) p d = 0 from (by simp [kAwayM, c_13, c_29]; done))] | rw [if_neg (show ¬ kAwayM (M 0) p d = 0 from (by simp [kAwayM, c_13, c_29]; done))]
      rw [eR8] at hP hD
      have eR9 : (2 : Int32) = nI (kAwayM (M 0) p d) := by exact (congrArg nI (show kAwayM (M 0) p d = _ from (by simp [kAwayM, c_13, c_29]; done))).symm
      have hP : va_P K.1 vwCl (mw K h a (hput (hput (hrow (hrow M 0 (if kAwayM (M 0) p d = 0 then upd (M 0) (50 + cN p) (M 0 0 + d) else M 0)) 2 (if kAwayM (M 0) p d = 0 then remP (M 0) (M 2) c else M 2)) 3 (if kAwayM (M 0) p d = 0 then nI (remC c) else M 3 0)) 8 (nI (kAwayM (M 0) p d)))) H := by rw [← eR9]; exact hP
      have hD : va_D A (mw K h a (hput (hput (hrow (hrow M 0 (if kAwayM (M 0) p d = 0 then upd (M 0) (50 + cN p) (M 0 0 + d) else M 0)) 2 (if kAwayM (M 0) p d = 0 then remP (M 0) (M 2) c else M 2)) 3 (if kAwayM (M 0) p d = 0 then nI (remC c) else M 3 0)) 8 (nI (kAwayM (M 0) p d)))) := by rw [← eR9]; exact hD
      exact hend _ _ _ _ _ _ _ () hP hD hS (Nat.le_of_ble_eq_true rfl) (Nat.le_of_ble_eq_true rfl) (by first | (intro hk9; rfl; done) | (intro hk9; simp [kAwayM, c_13, c_29] at hk9; done)) dX6_away_37
  · skip
    refine lv_aload_n hx hb dX6_away_16 rfl (lv_at hl 0 rfl) ?_
    refine lv_iconst (v := (1 : Int32)) hx hb dX6_away_17 (by decide) ?_
    refine xw_Vi (As := [.int (1 : Int32)]) (rest := []) (wc := mw K h a (hput M 8 (0 : Int32))) (wr := (List.filterMap (fun i => (mw K h a (hput M 8 (0 : Int32)) : va_W)[i]?) ([] : List Nat))) ⟨hx, hb, hml, hown, hts⟩ (c_X6_fails l K h a (hput M 8 (0 : Int32)) (1 : Int32) H.size) (cwV 1 hts gX6_away_X6_fails rfl rfl rfl (by decide +kernel) ⟨Nat.le_of_ble_eq_true rfl, Nat.le_of_ble_eq_true rfl⟩) hK hP hD hS hA [0, 1, 2, 3, 4, 5, 6, 7, 8, 9] [] [0, 1, 2, 3, 4, 5, 6, 7, 8, 9] rfl rfl rfl (fun _u => mw K h a (hput M 8 (1 : Int32))) (fun _ => rfl) 0 6 rfl rfl rfl rfl hl.1 rfl (Nat.le_of_ble_eq_true rfl) (Nat.le_of_ble_eq_true rfl) (Nat.le_of_ble_eq_true rfl) dX6_away_18 (fun r18 _ H locs hq18 hP hD hS => ?_)
    have hP : va_P K.1 vwCl (mw K h a (hput M 8 (1 : Int32))) H := hP
    have hD : va_D A (mw K h a (hput M 8 (1 : Int32))) := hD
    subst hq18
    have hP : va_P K.1 vwCl (mw K h a (hput (hrow M 0 (M 0)) 8 (1 : Int32))) H := hP
    have hD : va_D A (mw K h a (hput (hrow M 0 (M 0)) 8 (1 : Int32))) := hD
    have eR10 : (M 0) = if kAwayM (M 0) p d = 0 then upd (M 0) (50 + cN p) (M 0 0 + d) else M 0 := by first | exact (if_pos (show kAwayM (M 0) p d = 0 from (by simp [kAwayM, c_13]; done))).symm | exact (if_neg (show ¬ kAwayM (M 0) p d = 0 from (by simp [kAwayM, c_13]; done))).symm | rw [if_pos (show kAwayM (M 0) p d = 0 from (by simp [kAwayM, c_13]; done))] | rw [if_neg (show ¬ kAwayM (M 0) p d = 0 from (by simp [kAwayM, c_13]; done))]
    have hP : va_P K.1 vwCl (mw K h a (hput (hrow M 0 (if kAwayM (M 0) p d = 0 then upd (M 0) (50 + cN p) (M 0 0 + d) else M 0)) 8 (1 : Int32))) H := by rw [← eR10]; exact hP
    have hD : va_D A (mw K h a (hput (hrow M 0 (if kAwayM (M 0) p d = 0 then upd (M 0) (50 + cN p) (M 0 0 + d) else M 0)) 8 (1 : Int32))) := by rw [← eR10]; exact hD
    have hP : va_P K.1 vwCl (mw K h a (hput (hrow (hrow M 0 (if kAwayM (M 0) p d = 0 then upd (M 0) (50 + cN p) (M 0 0 + d) else M 0)) 2 (M 2)) 8 (1 : Int32))) H := hP
    have hD : va_D A (mw K h a (hput (hrow (hrow M 0 (if kAwayM (M 0) p d = 0 then upd (M 0) (50 + cN p) (M 0 0 + d) else M 0)) 2 (M 2)) 8 (1 : Int32))) := hD
    have eR11 : (M 2) = if kAwayM (M 0) p d = 0 then remP (M 0) (M 2) c else M 2 := by first | exact (if_pos (show kAwayM (M 0) p d = 0 from (by simp [kAwayM, c_13]; done))).symm | exact (if_neg (show ¬ kAwayM (M 0) p d = 0 from (by simp [kAwayM, c_13]; done))).symm | rw [if_pos (show kAwayM (M 0) p d = 0 from (by simp [kAwayM, c_13]; done))] | rw [if_neg (show ¬ kAwayM (M 0) p d = 0 from (by simp [kAwayM, c_13]; done))]
    have hP : va_P K.1 vwCl (mw K h a (hput (hrow (hrow M 0 (if kAwayM (M 0) p d = 0 then upd (M 0) (50 + cN p) (M 0 0 + d) else M 0)) 2 (if kAwayM (M 0) p d = 0 then remP (M 0) (M 2) c else M 2)) 8 (1 : Int32))) H := by rw [← eR11]; exact hP
    have hD : va_D A (mw K h a (hput (hrow (hrow M 0 (if kAwayM (M 0) p d = 0 then upd (M 0) (50 + cN p) (M 0 0 + d) else M 0)) 2 (if kAwayM (M 0) p d = 0 then remP (M 0) (M 2) c else M 2)) 8 (1 : Int32))) := by rw [← eR11]; exact hD
    have hP : va_P K.1 vwCl (mw K h a (hput (hput (hrow (hrow M 0 (if kAwayM (M 0) p d = 0 then upd (M 0) (50 + cN p) (M 0 0 + d) else M 0)) 2 (if kAwayM (M 0) p d = 0 then remP (M 0) (M 2) c else M 2)) 3 ((M 3) 0)) 8 (1 : Int32))) H := hP
    have hD : va_D A (mw K h a (hput (hput (hrow (hrow M 0 (if kAwayM (M 0) p d = 0 then upd (M 0) (50 + cN p) (M 0 0 + d) else M 0)) 2 (if kAwayM (M 0) p d = 0 then remP (M 0) (M 2) c else M 2)) 3 ((M 3) 0)) 8 (1 : Int32))) := hD
    have eR12 : ((M 3) 0) = if kAwayM (M 0) p d = 0 then nI (remC c) else M 3 0 := by first | exact (if_pos (show kAwayM (M 0) p d = 0 from (by simp [kAwayM, c_13]; done))).symm | exact (if_neg (show ¬ kAwayM (M 0) p d = 0 from (by simp [kAwayM, c_13]; done))).symm | rw [if_pos (show kAwayM (M 0) p d = 0 from (by simp [kAwayM, c_13]; done))] | rw [if_neg (show ¬ kAwayM (M 0) p d = 0 from (by simp [kAwayM, c_13]; done))]
    rw [eR12] at hP hD
    have eR13 : (1 : Int32) = nI (kAwayM (M 0) p d) := by exact (congrArg nI (show kAwayM (M 0) p d = _ from (by simp [kAwayM, c_13]; done))).symm
    have hP : va_P K.1 vwCl (mw K h a (hput (hput (hrow (hrow M 0 (if kAwayM (M 0) p d = 0 then upd (M 0) (50 + cN p) (M 0 0 + d) else M 0)) 2 (if kAwayM (M 0) p d = 0 then remP (M 0) (M 2) c else M 2)) 3 (if kAwayM (M 0) p d = 0 then nI (remC c) else M 3 0)) 8 (nI (kAwayM (M 0) p d)))) H := by rw [← eR13]; exact hP
    have hD : va_D A (mw K h a (hput (hput (hrow (hrow M 0 (if kAwayM (M 0) p d = 0 then upd (M 0) (50 + cN p) (M 0 0 + d) else M 0)) 2 (if kAwayM (M 0) p d = 0 then remP (M 0) (M 2) c else M 2)) 3 (if kAwayM (M 0) p d = 0 then nI (remC c) else M 3 0)) 8 (nI (kAwayM (M 0) p d)))) := by rw [← eR13]; exact hD
    exact hend _ _ _ _ _ _ _ () hP hD hS (Nat.le_of_ble_eq_true rfl) (Nat.le_of_ble_eq_true rfl) (by first | (intro hk9; rfl; done) | (intro hk9; simp [kAwayM, c_13] at hk9; done)) dX6_away_21

abbrev rm_X6_post : Room := { frames := 5, cells := 0, slots := 0, locals := 119 }
set_option maxHeartbeats 4000000 in
set_option maxRecDepth 100000 in
theorem c_X6_post (l : Launch) (K : KX) (h : Nat) (a : Nat → Nat) (M : HV) (R : Nat) (hR0 : M 0 3 = nI R) (hR0b : R ≤ 6) (P : Nat) (hP0 : M 0 4 = nI P) (hP0b : P ≤ 10) (hok : mOK (M 0) R P) (c : Nat) (hc0 : M 3 0 = nI c) (hc0b : c ≤ 14) (sz : Nat) : Met l yX6_post wsX6_post rm_X6_post (va_Pc [.ref h] (xPre K (mw K h a M) sz)) (va_Qi (fun (r9 : Int32) (u9 : (Nat → Int32) × (Nat → Int32)) => kPostM (M 0) R P = 0 → r9 = mStr (M 0) R P) (fun u9 t => xPost K (va_A (mw K h a M) sz) (mw K h a (hput (hput (hrow (hrow (hrow (hrow M 9 u9.1) 10 u9.2) 0 (if kPostM (M 0) R P = 0 then mPost (M 0) R P else M 0)) 2 (if kPostM (M 0) R P = 0 then remP (M 0) (M 2) c else M 2)) 3 (if kPostM (M 0) R P = 0 then nI (remC c) else M 3 0)) 8 (nI (kPostM (M 0) R P)))) t) (va_A (mw K h a M) sz)) 0 0 (va_A (mw K h a M) sz) := by
  refine xw_starti (cc := cX6_post) (maxL := 1) (by decide) rfl (Nat.le_of_ble_eq_true rfl) ?_
  intro p9 e9 s9 m9 below9 meth9 c9 H locs ls A av9 Q9 hx hb hlocks hml hname hts hown hK hP hD hS hA hsz hend hl
  have hown : s9.vm.findClass RX6 = some m9.cls := hown
  have hl : lv_has ls 1 [(0, .ref h)] := hl
  have hi6 : ∀ w ∈ u_ws RX6 TX6 14, w ∈ wsX6_post := by decide +kernel
  have lk42 := hts (.fieldLink RX6 42 "StandInsModel" "thrown" "I") (by decide +kernel)
  have lk7 := hts (.fieldLink RX6 7 "StandInsModel" "now" "[I") (by decide +kernel)
  refine lv_aload_n hx hb dX6_post_0 rfl (lv_at hl 0 rfl) ?_
  refine lv_iconst (v := (0 : Int32)) hx hb dX6_post_1 (by decide) ?_
  refine va_put (ci := 6) (v := .int (0 : Int32)) (ty := .int) (C := RX6) (T := TX6) (N := 14) hx hb hts hi6 tyX6 tyX6_ok nmX6 hown hK hP hD hS 0 rfl rfl 8 (by decide) lk42 (fun _ h9 => h9) rfl (by decide +kernel) rfl rfl (Nat.le_of_ble_eq_true rfl) dX6_post_2 (fun H locs hP hD hS => ?_)
  have hP : va_P K.1 vwCl (mw K h a (hput M 8 (0 : Int32))) H := hP
  have hD : va_D A (mw K h a (hput M 8 (0 : Int32))) := hD
  refine lv_aload_n hx hb dX6_post_5 rfl (lv_at hl 0 rfl) ?_
  refine va_get (ci := 6) (v := .ref (a 0)) (C := RX6) (T := TX6) (N := 14) hx hb hts hi6 hown hK hP 0 rfl rfl 0 (by decide) lk7 (fun _ h9 => h9) rfl dX6_post_6 ?_
  refine lv_iconst (v := (3 : Int32)) hx hb dX6_post_9 (by decide) ?_
  refine xi_ld hx hb hK hP 1 (f := M 0) rfl 3 rfl (by omega) (by decide) dX6_post_10 ?_
  refine xn_if_eq (tgt := 25) hx hb R hR0 (by omega) dX6_post_11 (by decide) (fun c_11 => ?_) (fun c_11 => ?_)
  · skip
    have hkk : kPostM (M 0) R P = 1 := if_pos (Or.inl c_11)
    refine lv_aload_n hx hb dX6_post_25 rfl (lv_at hl 0 rfl) ?_
    refine lv_iconst (v := (1 : Int32)) hx hb dX6_post_26 (by decide) ?_
    refine xw_Vi (As := [.int (1 : Int32)]) (rest := []) (wc := mw K h a (hput M 8 (0 : Int32))) (wr := (List.filterMap (fun i => (mw K h a (hput M 8 (0 : Int32)) : va_W)[i]?) ([] : List Nat))) ⟨hx, hb, hml, hown, hts⟩ (c_X6_fails l K h a (hput M 8 (0 : Int32)) (1 : Int32) H.size) (cwV 1 hts gX6_post_X6_fails rfl rfl rfl (by decide +kernel) ⟨Nat.le_of_ble_eq_true rfl, Nat.le_of_ble_eq_true rfl⟩) hK hP hD hS hA [0, 1, 2, 3, 4, 5, 6, 7, 8, 9] [] [0, 1, 2, 3, 4, 5, 6, 7, 8, 9] rfl rfl rfl (fun _u => mw K h a (hput M 8 (1 : Int32))) (fun _ => rfl) 0 6 rfl rfl rfl rfl hl.1 rfl (Nat.le_of_ble_eq_true rfl) (Nat.le_of_ble_eq_true rfl) (Nat.le_of_ble_eq_true rfl) dX6_post_27 (fun r27 _ H locs hq27 hP hD hS => ?_)
    have hP : va_P K.1 vwCl (mw K h a (hput M 8 (1 : Int32))) H := hP
    have hD : va_D A (mw K h a (hput M 8 (1 : Int32))) := hD
    subst hq27
    have hP : va_P K.1 vwCl (mw K h a (hput (hrow M 0 (M 0)) 8 (1 : Int32))) H := hP
    have hD : va_D A (mw K h a (hput (hrow M 0 (M 0)) 8 (1 : Int32))) := hD
    have eR1 : (M 0) = if kPostM (M 0) R P = 0 then mPost (M 0) R P else M 0 := by first | exact (if_pos hkk).symm | exact (if_neg (by rw [hkk]; decide)).symm
    have hP : va_P K.1 vwCl (mw K h a (hput (hrow M 0 (if kPostM (M 0) R P = 0 then mPost (M 0) R P else M 0)) 8 (1 : Int32))) H := by rw [← eR1]; exact hP
    have hD : va_D A (mw K h a (hput (hrow M 0 (if kPostM (M 0) R P = 0 then mPost (M 0) R P else M 0)) 8 (1 : Int32))) := by rw [← eR1]; exact hD
    have hP : va_P K.1 vwCl (mw K h a (hput (hrow (hrow M 0 (if kPostM (M 0) R P = 0 then mPost (M 0) R P else M 0)) 2 (M 2)) 8 (1 : Int32))) H := hP
    have hD : va_D A (mw K h a (hput (hrow (hrow M 0 (if kPostM (M 0) R P = 0 then mPost (M 0) R P else M 0)) 2 (M 2)) 8 (1 : Int32))) := hD
    have eR2 : (M 2) = if kPostM (M 0) R P = 0 then remP (M 0) (M 2) c else M 2 := by first | exact (if_pos hkk).symm | exact (if_neg (by rw [hkk]; decide)).symm
    have hP : va_P K.1 vwCl (mw K h a (hput (hrow (hrow M 0 (if kPostM (M 0) R P = 0 then mPost (M 0) R P else M 0)) 2 (if kPostM (M 0) R P = 0 then remP (M 0) (M 2) c else M 2)) 8 (1 : Int32))) H := by rw [← eR2]; exact hP
    have hD : va_D A (mw K h a (hput (hrow (hrow M 0 (if kPostM (M 0) R P = 0 then mPost (M 0) R P else M 0)) 2 (if kPostM (M 0) R P = 0 then remP (M 0) (M 2) c else M 2)) 8 (1 : Int32))) := by rw [← eR2]; exact hD
    have hP : va_P K.1 vwCl (mw K h a (hput (hput (hrow (hrow M 0 (if kPostM (M 0) R P = 0 then mPost (M 0) R P else M 0)) 2 (if kPostM (M 0) R P = 0 then remP (M 0) (M 2) c else M 2)) 3 ((M 3) 0)) 8 (1 : Int32))) H := hP
    have hD : va_D A (mw K h a (hput (hput (hrow (hrow M 0 (if kPostM (M 0) R P = 0 then mPost (M 0) R P else M 0)) 2 (if kPostM (M 0) R P = 0 then remP (M 0) (M 2) c else M 2)) 3 ((M 3) 0)) 8 (1 : Int32))) := hD
    have eR3 : ((M 3) 0) = if kPostM (M 0) R P = 0 then nI (remC c) else M 3 0 := by first | exact (if_pos hkk).symm | exact (if_neg (by rw [hkk]; decide)).symm
    rw [eR3] at hP hD
    have eR4 : (1 : Int32) = nI (kPostM (M 0) R P) := by exact (congrArg nI hkk).symm
    have hP : va_P K.1 vwCl (mw K h a (hput (hput (hrow (hrow M 0 (if kPostM (M 0) R P = 0 then mPost (M 0) R P else M 0)) 2 (if kPostM (M 0) R P = 0 then remP (M 0) (M 2) c else M 2)) 3 (if kPostM (M 0) R P = 0 then nI (remC c) else M 3 0)) 8 (nI (kPostM (M 0) R P)))) H := by rw [← eR4]; exact hP
    have hD : va_D A (mw K h a (hput (hput (hrow (hrow M 0 (if kPostM (M 0) R P = 0 then mPost (M 0) R P else M 0)) 2 (if kPostM (M 0) R P = 0 then remP (M 0) (M 2) c else M 2)) 3 (if kPostM (M 0) R P = 0 then nI (remC c) else M 3 0)) 8 (nI (kPostM (M 0) R P)))) := by rw [← eR4]; exact hD
    exact hend _ _ _ _ _ _ _ (M 9, M 10) hP hD hS (Nat.le_of_ble_eq_true rfl) (Nat.le_of_ble_eq_true rfl) (by (intro hk9; first | rfl | exact absurd (hkk.symm.trans hk9) (by decide))) dX6_post_30
  · skip
    refine lv_aload_n hx hb dX6_post_14 rfl (lv_at hl 0 rfl) ?_
    refine lv_aload_n hx hb dX6_post_15 rfl (lv_at hl 0 rfl) ?_
    refine va_get (ci := 6) (v := .ref (a 0)) (C := RX6) (T := TX6) (N := 14) hx hb hts hi6 hown hK hP 0 rfl rfl 0 (by decide) lk7 (fun _ h9 => h9) rfl dX6_post_16 ?_
    refine xw_Vi (As := [.ref (a 0)]) (rest := []) (wc := mw K h a (hput M 8 (0 : Int32))) (wr := (List.filterMap (fun i => (mw K h a (hput M 8 (0 : Int32)) : va_W)[i]?) ([] : List Nat))) ⟨hx, hb, hml, hown, hts⟩ (c_X6_casts_n l K h a (hput M 8 (0 : Int32)) R hR0 (by omega) P hP0 (by omega) (by first | assumption | omega) H.size) (cwV 1 hts gX6_post_X6_casts rfl rfl rfl (by decide +kernel) ⟨Nat.le_of_ble_eq_true rfl, Nat.le_of_ble_eq_true rfl⟩) hK hP hD hS hA [0, 1, 2, 3, 4, 5, 6, 7, 8, 9] [] [0, 1, 2, 3, 4, 5, 6, 7, 8, 9] rfl rfl rfl (fun E19 => mw K h a (hrow (hrow (hput M 8 (0 : Int32)) 9 E19) 10 (mcR (M 0) R P (M 10) 6))) (fun _ => rfl) 0 6 rfl rfl rfl rfl hl.1 rfl (Nat.le_of_ble_eq_true rfl) (Nat.le_of_ble_eq_true rfl) (Nat.le_of_ble_eq_true rfl) dX6_post_19 (fun r19 E19 H locs hq19 hP hD hS => ?_)
    have hP : va_P K.1 vwCl (mw K h a (hrow (hrow (hput M 8 (0 : Int32)) 9 E19) 10 (mcR (M 0) R P (M 10) 6))) H := hP
    have hD : va_D A (mw K h a (hrow (hrow (hput M 8 (0 : Int32)) 9 E19) 10 (mcR (M 0) R P (M 10) 6))) := hD
    subst hq19
    refine lv_if_ge (tgt := 31) hx hb dX6_post_22 (by decide) (fun c_22 => ?_) (fun c_22 => ?_)
    · skip
      have c_22n := Int32.not_lt.mpr c_22
      have hkk : kPostM (M 0) R P = 0 := if_neg (fun z => z.elim c_11 c_22n)
      refine lv_aload_n hx hb dX6_post_31 rfl (lv_at hl 0 rfl) ?_
      refine xw_Vv (As := []) (rest := []) (wc := mw K h a (hrow (hrow (hput M 8 (0 : Int32)) 9 E19) 10 (mcR (M 0) R P (M 10) 6))) (wr := (List.filterMap (fun i => (mw K h a (hrow (hrow (hput M 8 (0 : Int32)) 9 E19) 10 (mcR (M 0) R P (M 10) 6)) : va_W)[i]?) ([] : List Nat))) ⟨hx, hb, hml, hown, hts⟩ (c_X6_remembers l K h a (hrow (hrow (hput M 8 (0 : Int32)) 9 E19) 10 (mcR (M 0) R P (M 10) 6)) c hc0 (by omega) H.size) (cwV 0 hts gX6_post_X6_remembers rfl rfl rfl (by decide +kernel) ⟨Nat.le_of_ble_eq_true rfl, Nat.le_of_ble_eq_true rfl⟩) hK hP hD hS hA [0, 1, 2, 3, 4, 5, 6, 7, 8, 9] [] [0, 1, 2, 3, 4, 5, 6, 7, 8, 9] rfl rfl rfl (fun _u => mw K h a (hrow (hrow (hput (hput (hrow M 2 (remP (M 0) (M 2) c)) 3 (nI (remC c))) 8 (0 : Int32)) 9 E19) 10 (mcR (M 0) R P (M 10) 6))) (fun _ => rfl) 0 6 rfl rfl rfl rfl hl.1 rfl (Nat.le_of_ble_eq_true rfl) (Nat.le_of_ble_eq_true rfl) (Nat.le_of_ble_eq_true rfl) dX6_post_32 (fun _ H locs hq32 hP hD hS => ?_)
      have hP : va_P K.1 vwCl (mw K h a (hrow (hrow (hput (hput (hrow M 2 (remP (M 0) (M 2) c)) 3 (nI (remC c))) 8 (0 : Int32)) 9 E19) 10 (mcR (M 0) R P (M 10) 6))) H := hP
      have hD : va_D A (mw K h a (hrow (hrow (hput (hput (hrow M 2 (remP (M 0) (M 2) c)) 3 (nI (remC c))) 8 (0 : Int32)) 9 E19) 10 (mcR (M 0) R P (M 10) 6))) := hD
      refine lv_aload_n hx hb dX6_post_35 rfl (lv_at hl 0 rfl) ?_
      refine lv_aload_n hx hb dX6_post_36 rfl (lv_at hl 0 rfl) ?_
      refine va_get (ci := 6) (v := .ref (a 0)) (C := RX6) (T := TX6) (N := 14) hx hb hts hi6 hown hK hP 0 rfl rfl 0 (by decide) lk7 (fun _ h9 => h9) rfl dX6_post_37 ?_
      refine xw_Vi (As := [.ref (a 0)]) (rest := []) (wc := mw K h a (hrow (hrow (hput (hput (hrow M 2 (remP (M 0) (M 2) c)) 3 (nI (remC c))) 8 (0 : Int32)) 9 E19) 10 (mcR (M 0) R P (M 10) 6))) (wr := (List.filterMap (fun i => (mw K h a (hrow (hrow (hput (hput (hrow M 2 (remP (M 0) (M 2) c)) 3 (nI (remC c))) 8 (0 : Int32)) 9 E19) 10 (mcR (M 0) R P (M 10) 6)) : va_W)[i]?) ([] : List Nat))) ⟨hx, hb, hml, hown, hts⟩ (c_X6_posts_n l K h a (hrow (hrow (hput (hput (hrow M 2 (remP (M 0) (M 2) c)) 3 (nI (remC c))) 8 (0 : Int32)) 9 E19) 10 (mcR (M 0) R P (M 10) 6)) R hR0 (by omega) P hP0 (by omega) (by first | assumption | omega) H.size) (cwV 1 hts gX6_post_X6_posts rfl rfl rfl (by decide +kernel) ⟨Nat.le_of_ble_eq_true rfl, Nat.le_of_ble_eq_true rfl⟩) hK hP hD hS hA [0, 1, 2, 3, 4, 5, 6, 7, 8, 9] [] [0, 1, 2, 3, 4, 5, 6, 7, 8, 9] rfl rfl rfl (fun E40 => mw K h a (hrow (hrow (hput (hput (hrow (hrow M 0 (mPost (M 0) R P)) 2 (remP (M 0) (M 2) c)) 3 (nI (remC c))) 8 (0 : Int32)) 9 E40) 10 (mcR (M 0) R P ((mcR (M 0) R P (M 10) 6)) 6))) (fun _ => rfl) 0 6 rfl rfl rfl rfl hl.1 rfl (Nat.le_of_ble_eq_true rfl) (Nat.le_of_ble_eq_true rfl) (Nat.le_of_ble_eq_true rfl) dX6_post_40 (fun r40 E40 H locs hq40 hP hD hS => ?_)
      have hP : va_P K.1 vwCl (mw K h a (hrow (hrow (hput (hput (hrow (hrow M 0 (mPost (M 0) R P)) 2 (remP (M 0) (M 2) c)) 3 (nI (remC c))) 8 (0 : Int32)) 9 E40) 10 (mcR (M 0) R P ((mcR (M 0) R P (M 10) 6)) 6))) H := hP
      have hD : va_D A (mw K h a (hrow (hrow (hput (hput (hrow (hrow M 0 (mPost (M 0) R P)) 2 (remP (M 0) (M 2) c)) 3 (nI (remC c))) 8 (0 : Int32)) 9 E40) 10 (mcR (M 0) R P ((mcR (M 0) R P (M 10) 6)) 6))) := hD
      subst hq40
      have eR5 : (mPost (M 0) R P) = if kPostM (M 0) R P = 0 then mPost (M 0) R P else M 0 := by first | exact (if_pos hkk).symm | exact (if_neg (by rw [hkk]; decide)).symm
      have hP : va_P K.1 vwCl (mw K h a (hrow (hrow (hput (hput (hrow (hrow M 0 (if kPostM (M 0) R P = 0 then mPost (M 0) R P else M 0)) 2 (remP (M 0) (M 2) c)) 3 (nI (remC c))) 8 (0 : Int32)) 9 E40) 10 (mcR (M 0) R P ((mcR (M 0) R P (M 10) 6)) 6))) H := by rw [← eR5]; exact hP
      have hD : va_D A (mw K h a (hrow (hrow (hput (hput (hrow (hrow M 0 (if kPostM (M 0) R P = 0 then mPost (M 0) R P else M 0)) 2 (remP (M 0) (M 2) c)) 3 (nI (remC c))) 8 (0 : Int32)) 9 E40) 10 (mcR (M 0) R P ((mcR (M 0) R P (M 10) 6)) 6))) := by rw [← eR5]; exact hD
      have eR6 : (remP (M 0) (M 2) c) = if kPostM (M 0) R P = 0 then remP (M 0) (M 2) c else M 2 := by first | exact (if_pos hkk).symm | exact (if_neg (by rw [hkk]; decide)).symm
      have hP : va_P K.1 vwCl (mw K h a (hrow (hrow (hput (hput (hrow (hrow M 0 (if kPostM (M 0) R P = 0 then mPost (M 0) R P else M 0)) 2 (if kPostM (M 0) R P = 0 then remP (M 0) (M 2) c else M 2)) 3 (nI (remC c))) 8 (0 : Int32)) 9 E40) 10 (mcR (M 0) R P ((mcR (M 0) R P (M 10) 6)) 6))) H := by rw [← eR6]; exact hP
      have hD : va_D A (mw K h a (hrow (hrow (hput (hput (hrow (hrow M 0 (if kPostM (M 0) R P = 0 then mPost (M 0) R P else M 0)) 2 (if kPostM (M 0) R P = 0 then remP (M 0) (M 2) c else M 2)) 3 (nI (remC c))) 8 (0 : Int32)) 9 E40) 10 (mcR (M 0) R P ((mcR (M 0) R P (M 10) 6)) 6))) := by rw [← eR6]; exact hD
      have eR7 : (nI (remC c)) = if kPostM (M 0) R P = 0 then nI (remC c) else M 3 0 := by first | exact (if_pos hkk).symm | exact (if_neg (by rw [hkk]; decide)).symm
      have hP : va_P K.1 vwCl (mw K h a (hrow (hrow (hput (hput (hrow (hrow M 0 (if kPostM (M 0) R P = 0 then mPost (M 0) R P else M 0)) 2 (if kPostM (M 0) R P = 0 then remP (M 0) (M 2) c else M 2)) 3 (if kPostM (M 0) R P = 0 then nI (remC c) else M 3 0)) 8 (0 : Int32)) 9 E40) 10 (mcR (M 0) R P ((mcR (M 0) R P (M 10) 6)) 6))) H := by rw [← eR7]; exact hP
      have hD : va_D A (mw K h a (hrow (hrow (hput (hput (hrow (hrow M 0 (if kPostM (M 0) R P = 0 then mPost (M 0) R P else M 0)) 2 (if kPostM (M 0) R P = 0 then remP (M 0) (M 2) c else M 2)) 3 (if kPostM (M 0) R P = 0 then nI (remC c) else M 3 0)) 8 (0 : Int32)) 9 E40) 10 (mcR (M 0) R P ((mcR (M 0) R P (M 10) 6)) 6))) := by rw [← eR7]; exact hD
      have eR8 : (0 : Int32) = nI (kPostM (M 0) R P) := by exact (congrArg nI hkk).symm
      have hP : va_P K.1 vwCl (mw K h a (hrow (hrow (hput (hput (hrow (hrow M 0 (if kPostM (M 0) R P = 0 then mPost (M 0) R P else M 0)) 2 (if kPostM (M 0) R P = 0 then remP (M 0) (M 2) c else M 2)) 3 (if kPostM (M 0) R P = 0 then nI (remC c) else M 3 0)) 8 (nI (kPostM (M 0) R P))) 9 E40) 10 (mcR (M 0) R P ((mcR (M 0) R P (M 10) 6)) 6))) H := by rw [← eR8]; exact hP
      have hD : va_D A (mw K h a (hrow (hrow (hput (hput (hrow (hrow M 0 (if kPostM (M 0) R P = 0 then mPost (M 0) R P else M 0)) 2 (if kPostM (M 0) R P = 0 then remP (M 0) (M 2) c else M 2)) 3 (if kPostM (M 0) R P = 0 then nI (remC c) else M 3 0)) 8 (nI (kPostM (M 0) R P))) 9 E40) 10 (mcR (M 0) R P ((mcR (M 0) R P (M 10) 6)) 6))) := by rw [← eR8]; exact hD
      exact hend _ _ _ _ _ _ _ (E40, mcR (M 0) R P ((mcR (M 0) R P (M 10) 6)) 6) hP hD hS (Nat.le_of_ble_eq_true rfl) (Nat.le_of_ble_eq_true rfl) (by (intro hk9; first | rfl | exact absurd (hkk.symm.trans hk9) (by decide))) dX6_post_43
    · skip
      have c_22n := Int32.not_le.mp c_22
      have hkk : kPostM (M 0) R P = 1 := if_pos (Or.inr c_22n)
      refine lv_aload_n hx hb dX6_post_25 rfl (lv_at hl 0 rfl) ?_
      refine lv_iconst (v := (1 : Int32)) hx hb dX6_post_26 (by decide) ?_
      refine xw_Vi (As := [.int (1 : Int32)]) (rest := []) (wc := mw K h a (hrow (hrow (hput M 8 (0 : Int32)) 9 E19) 10 (mcR (M 0) R P (M 10) 6))) (wr := (List.filterMap (fun i => (mw K h a (hrow (hrow (hput M 8 (0 : Int32)) 9 E19) 10 (mcR (M 0) R P (M 10) 6)) : va_W)[i]?) ([] : List Nat))) ⟨hx, hb, hml, hown, hts⟩ (c_X6_fails l K h a (hrow (hrow (hput M 8 (0 : Int32)) 9 E19) 10 (mcR (M 0) R P (M 10) 6)) (1 : Int32) H.size) (cwV 1 hts gX6_post_X6_fails rfl rfl rfl (by decide +kernel) ⟨Nat.le_of_ble_eq_true rfl, Nat.le_of_ble_eq_true rfl⟩) hK hP hD hS hA [0, 1, 2, 3, 4, 5, 6, 7, 8, 9] [] [0, 1, 2, 3, 4, 5, 6, 7, 8, 9] rfl rfl rfl (fun _u => mw K h a (hrow (hrow (hput M 8 (1 : Int32)) 9 E19) 10 (mcR (M 0) R P (M 10) 6))) (fun _ => rfl) 0 6 rfl rfl rfl rfl hl.1 rfl (Nat.le_of_ble_eq_true rfl) (Nat.le_of_ble_eq_true rfl) (Nat.le_of_ble_eq_true rfl) dX6_post_27 (fun r27 _ H locs hq27 hP hD hS => ?_)
      have hP : va_P K.1 vwCl (mw K h a (hrow (hrow (hput M 8 (1 : Int32)) 9 E19) 10 (mcR (M 0) R P (M 10) 6))) H := hP
      have hD : va_D A (mw K h a (hrow (hrow (hput M 8 (1 : Int32)) 9 E19) 10 (mcR (M 0) R P (M 10) 6))) := hD
      subst hq27
      have hP : va_P K.1 vwCl (mw K h a (hrow (hrow (hput (hrow M 0 (M 0)) 8 (1 : Int32)) 9 E19) 10 (mcR (M 0) R P (M 10) 6))) H := hP
      have hD : va_D A (mw K h a (hrow (hrow (hput (hrow M 0 (M 0)) 8 (1 : Int32)) 9 E19) 10 (mcR (M 0) R P (M 10) 6))) := hD
      have eR9 : (M 0) = if kPostM (M 0) R P = 0 then mPost (M 0) R P else M 0 := by first | exact (if_pos hkk).symm | exact (if_neg (by rw [hkk]; decide)).symm
      have hP : va_P K.1 vwCl (mw K h a (hrow (hrow (hput (hrow M 0 (if kPostM (M 0) R P = 0 then mPost (M 0) R P else M 0)) 8 (1 : Int32)) 9 E19) 10 (mcR (M 0) R P (M 10) 6))) H := by rw [← eR9]; exact hP
      have hD : va_D A (mw K h a (hrow (hrow (hput (hrow M 0 (if kPostM (M 0) R P = 0 then mPost (M 0) R P else M 0)) 8 (1 : Int32)) 9 E19) 10 (mcR (M 0) R P (M 10) 6))) := by rw [← eR9]; exact hD
      have hP : va_P K.1 vwCl (mw K h a (hrow (hrow (hput (hrow (hrow M 0 (if kPostM (M 0) R P = 0 then mPost (M 0) R P else M 0)) 2 (M 2)) 8 (1 : Int32)) 9 E19) 10 (mcR (M 0) R P (M 10) 6))) H := hP
      have hD : va_D A (mw K h a (hrow (hrow (hput (hrow (hrow M 0 (if kPostM (M 0) R P = 0 then mPost (M 0) R P else M 0)) 2 (M 2)) 8 (1 : Int32)) 9 E19) 10 (mcR (M 0) R P (M 10) 6))) := hD
      have eR10 : (M 2) = if kPostM (M 0) R P = 0 then remP (M 0) (M 2) c else M 2 := by first | exact (if_pos hkk).symm | exact (if_neg (by rw [hkk]; decide)).symm
      have hP : va_P K.1 vwCl (mw K h a (hrow (hrow (hput (hrow (hrow M 0 (if kPostM (M 0) R P = 0 then mPost (M 0) R P else M 0)) 2 (if kPostM (M 0) R P = 0 then remP (M 0) (M 2) c else M 2)) 8 (1 : Int32)) 9 E19) 10 (mcR (M 0) R P (M 10) 6))) H := by rw [← eR10]; exact hP
      have hD : va_D A (mw K h a (hrow (hrow (hput (hrow (hrow M 0 (if kPostM (M 0) R P = 0 then mPost (M 0) R P else M 0)) 2 (if kPostM (M 0) R P = 0 then remP (M 0) (M 2) c else M 2)) 8 (1 : Int32)) 9 E19) 10 (mcR (M 0) R P (M 10) 6))) := by rw [← eR10]; exact hD
      have hP : va_P K.1 vwCl (mw K h a (hrow (hrow (hput (hput (hrow (hrow M 0 (if kPostM (M 0) R P = 0 then mPost (M 0) R P else M 0)) 2 (if kPostM (M 0) R P = 0 then remP (M 0) (M 2) c else M 2)) 3 ((M 3) 0)) 8 (1 : Int32)) 9 E19) 10 (mcR (M 0) R P (M 10) 6))) H := hP
      have hD : va_D A (mw K h a (hrow (hrow (hput (hput (hrow (hrow M 0 (if kPostM (M 0) R P = 0 then mPost (M 0) R P else M 0)) 2 (if kPostM (M 0) R P = 0 then remP (M 0) (M 2) c else M 2)) 3 ((M 3) 0)) 8 (1 : Int32)) 9 E19) 10 (mcR (M 0) R P (M 10) 6))) := hD
      have eR11 : ((M 3) 0) = if kPostM (M 0) R P = 0 then nI (remC c) else M 3 0 := by first | exact (if_pos hkk).symm | exact (if_neg (by rw [hkk]; decide)).symm
      rw [eR11] at hP hD
      have eR12 : (1 : Int32) = nI (kPostM (M 0) R P) := by exact (congrArg nI hkk).symm
      have hP : va_P K.1 vwCl (mw K h a (hrow (hrow (hput (hput (hrow (hrow M 0 (if kPostM (M 0) R P = 0 then mPost (M 0) R P else M 0)) 2 (if kPostM (M 0) R P = 0 then remP (M 0) (M 2) c else M 2)) 3 (if kPostM (M 0) R P = 0 then nI (remC c) else M 3 0)) 8 (nI (kPostM (M 0) R P))) 9 E19) 10 (mcR (M 0) R P (M 10) 6))) H := by rw [← eR12]; exact hP
      have hD : va_D A (mw K h a (hrow (hrow (hput (hput (hrow (hrow M 0 (if kPostM (M 0) R P = 0 then mPost (M 0) R P else M 0)) 2 (if kPostM (M 0) R P = 0 then remP (M 0) (M 2) c else M 2)) 3 (if kPostM (M 0) R P = 0 then nI (remC c) else M 3 0)) 8 (nI (kPostM (M 0) R P))) 9 E19) 10 (mcR (M 0) R P (M 10) 6))) := by rw [← eR12]; exact hD
      exact hend _ _ _ _ _ _ _ (E19, mcR (M 0) R P (M 10) 6) hP hD hS (Nat.le_of_ble_eq_true rfl) (Nat.le_of_ble_eq_true rfl) (by (intro hk9; first | rfl | exact absurd (hkk.symm.trans hk9) (by decide))) dX6_post_30

abbrev rm_X6_play : Room := { frames := 5, cells := 0, slots := 0, locals := 123 }
set_option maxHeartbeats 4000000 in
set_option maxRecDepth 100000 in
theorem c_X6_play (l : Launch) (K : KX) (h : Nat) (a : Nat → Nat) (M : HV) (R : Nat) (hR0 : M 0 3 = nI R) (hR0b : R ≤ 6) (P : Nat) (hP0 : M 0 4 = nI P) (hP0b : P ≤ 10) (hok : mOK (M 0) R P) (c : Nat) (hc0 : M 3 0 = nI c) (hc0b : c ≤ 14) (sz : Nat) : Met l yX6_play wsX6_play rm_X6_play (va_Pc [.ref h] (xPre K (mw K h a M) sz)) (va_Qi (fun (r9 : Int32) (u9 : (Nat → Int32) × (Nat → Int32)) => kPlayM R = 0 → r9 = mPaid (M 0) R P) (fun u9 t => xPost K (va_A (mw K h a M) sz) (mw K h a (hput (hput (hrow (hrow (hrow (hrow M 9 u9.1) 10 u9.2) 0 (if kPlayM R = 0 then mPlay (M 0) R P else M 0)) 2 (if kPlayM R = 0 then remP (M 0) (M 2) c else M 2)) 3 (if kPlayM R = 0 then nI (remC c) else M 3 0)) 8 (nI (kPlayM R)))) t) (va_A (mw K h a M) sz)) 0 0 (va_A (mw K h a M) sz) := by
  refine xw_starti (cc := cX6_play) (maxL := 1) (by decide) rfl (Nat.le_of_ble_eq_true rfl) ?_
  intro p9 e9 s9 m9 below9 meth9 c9 H locs ls A av9 Q9 hx hb hlocks hml hname hts hown hK hP hD hS hA hsz hend hl
  have hown : s9.vm.findClass RX6 = some m9.cls := hown
  have hl : lv_has ls 1 [(0, .ref h)] := hl
  have hi6 : ∀ w ∈ u_ws RX6 TX6 14, w ∈ wsX6_play := by decide +kernel
  have lk42 := hts (.fieldLink RX6 42 "StandInsModel" "thrown" "I") (by decide +kernel)
  have lk7 := hts (.fieldLink RX6 7 "StandInsModel" "now" "[I") (by decide +kernel)
  refine lv_aload_n hx hb dX6_play_0 rfl (lv_at hl 0 rfl) ?_
  refine lv_iconst (v := (0 : Int32)) hx hb dX6_play_1 (by decide) ?_
  refine va_put (ci := 6) (v := .int (0 : Int32)) (ty := .int) (C := RX6) (T := TX6) (N := 14) hx hb hts hi6 tyX6 tyX6_ok nmX6 hown hK hP hD hS 0 rfl rfl 8 (by decide) lk42 (fun _ h9 => h9) rfl (by decide +kernel) rfl rfl (Nat.le_of_ble_eq_true rfl) dX6_play_2 (fun H locs hP hD hS => ?_)
  have hP : va_P K.1 vwCl (mw K h a (hput M 8 (0 : Int32))) H := hP
  have hD : va_D A (mw K h a (hput M 8 (0 : Int32))) := hD
  refine lv_aload_n hx hb dX6_play_5 rfl (lv_at hl 0 rfl) ?_
  refine va_get (ci := 6) (v := .ref (a 0)) (C := RX6) (T := TX6) (N := 14) hx hb hts hi6 hown hK hP 0 rfl rfl 0 (by decide) lk7 (fun _ h9 => h9) rfl dX6_play_6 ?_
  refine lv_iconst (v := (3 : Int32)) hx hb dX6_play_9 (by decide) ?_
  refine xi_ld hx hb hK hP 1 (f := M 0) rfl 3 rfl (by omega) (by decide) dX6_play_10 ?_
  refine xn_if_ne (tgt := 20) hx hb R hR0 (by omega) dX6_play_11 (by decide) (fun c_11 => ?_) (fun c_11 => ?_)
  · skip
    refine lv_aload_n hx hb dX6_play_20 rfl (lv_at hl 0 rfl) ?_
    refine xw_Vv (As := []) (rest := []) (wc := mw K h a (hput M 8 (0 : Int32))) (wr := (List.filterMap (fun i => (mw K h a (hput M 8 (0 : Int32)) : va_W)[i]?) ([] : List Nat))) ⟨hx, hb, hml, hown, hts⟩ (c_X6_remembers l K h a (hput M 8 (0 : Int32)) c hc0 (by omega) H.size) (cwV 0 hts gX6_play_X6_remembers rfl rfl rfl (by decide +kernel) ⟨Nat.le_of_ble_eq_true rfl, Nat.le_of_ble_eq_true rfl⟩) hK hP hD hS hA [0, 1, 2, 3, 4, 5, 6, 7, 8, 9] [] [0, 1, 2, 3, 4, 5, 6, 7, 8, 9] rfl rfl rfl (fun _u => mw K h a (hput (hput (hrow M 2 (remP (M 0) (M 2) c)) 3 (nI (remC c))) 8 (0 : Int32))) (fun _ => rfl) 0 6 rfl rfl rfl rfl hl.1 rfl (Nat.le_of_ble_eq_true rfl) (Nat.le_of_ble_eq_true rfl) (Nat.le_of_ble_eq_true rfl) dX6_play_21 (fun _ H locs hq21 hP hD hS => ?_)
    have hP : va_P K.1 vwCl (mw K h a (hput (hput (hrow M 2 (remP (M 0) (M 2) c)) 3 (nI (remC c))) 8 (0 : Int32))) H := hP
    have hD : va_D A (mw K h a (hput (hput (hrow M 2 (remP (M 0) (M 2) c)) 3 (nI (remC c))) 8 (0 : Int32))) := hD
    refine lv_aload_n hx hb dX6_play_24 rfl (lv_at hl 0 rfl) ?_
    refine lv_aload_n hx hb dX6_play_25 rfl (lv_at hl 0 rfl) ?_
    refine va_get (ci := 6) (v := .ref (a 0)) (C := RX6) (T := TX6) (N := 14) hx hb hts hi6 hown hK hP 0 rfl rfl 0 (by decide) lk7 (fun _ h9 => h9) rfl dX6_play_26 ?_
    refine xw_Vi (As := [.ref (a 0)]) (rest := []) (wc := mw K h a (hput (hput (hrow M 2 (remP (M 0) (M 2) c)) 3 (nI (remC c))) 8 (0 : Int32))) (wr := (List.filterMap (fun i => (mw K h a (hput (hput (hrow M 2 (remP (M 0) (M 2) c)) 3 (nI (remC c))) 8 (0 : Int32)) : va_W)[i]?) ([] : List Nat))) ⟨hx, hb, hml, hown, hts⟩ (c_X6_plays_n l K h a (hput (hput (hrow M 2 (remP (M 0) (M 2) c)) 3 (nI (remC c))) 8 (0 : Int32)) R hR0 (by omega) P hP0 (by omega) (by first | assumption | omega) H.size) (cwV 1 hts gX6_play_X6_plays rfl rfl rfl (by decide +kernel) ⟨Nat.le_of_ble_eq_true rfl, Nat.le_of_ble_eq_true rfl⟩) hK hP hD hS hA [0, 1, 2, 3, 4, 5, 6, 7, 8, 9] [] [0, 1, 2, 3, 4, 5, 6, 7, 8, 9] rfl rfl rfl (fun E29 => mw K h a (hrow (hrow (hput (hput (hrow (hrow M 0 (mPlay (M 0) R P)) 2 (remP (M 0) (M 2) c)) 3 (nI (remC c))) 8 (0 : Int32)) 9 E29) 10 (mcR (M 0) R P (M 10) 6))) (fun _ => rfl) 0 6 rfl rfl rfl rfl hl.1 rfl (Nat.le_of_ble_eq_true rfl) (Nat.le_of_ble_eq_true rfl) (Nat.le_of_ble_eq_true rfl) dX6_play_29 (fun r29 E29 H locs hq29 hP hD hS => ?_)
    have hP : va_P K.1 vwCl (mw K h a (hrow (hrow (hput (hput (hrow (hrow M 0 (mPlay (M 0) R P)) 2 (remP (M 0) (M 2) c)) 3 (nI (remC c))) 8 (0 : Int32)) 9 E29) 10 (mcR (M 0) R P (M 10) 6))) H := hP
    have hD : va_D A (mw K h a (hrow (hrow (hput (hput (hrow (hrow M 0 (mPlay (M 0) R P)) 2 (remP (M 0) (M 2) c)) 3 (nI (remC c))) 8 (0 : Int32)) 9 E29) 10 (mcR (M 0) R P (M 10) 6))) := hD
    subst hq29
    have eR1 : (mPlay (M 0) R P) = if kPlayM R = 0 then mPlay (M 0) R P else M 0 := by first | exact (if_pos (show kPlayM R = 0 from (by simp [kPlayM, c_11]; done))).symm | exact (if_neg (show ¬ kPlayM R = 0 from (by simp [kPlayM, c_11]; done))).symm | rw [if_pos (show kPlayM R = 0 from (by simp [kPlayM, c_11]; done))] | rw [if_neg (show ¬ kPlayM R = 0 from (by simp [kPlayM, c_11]; done))]
    have hP : va_P K.1 vwCl (mw K h a (hrow (hrow (hput (hput (hrow (hrow M 0 (if kPlayM R = 0 then mPlay (M 0) R P else M 0)) 2 (remP (M 0) (M 2) c)) 3 (nI (remC c))) 8 (0 : Int32)) 9 E29) 10 (mcR (M 0) R P (M 10) 6))) H := by rw [← eR1]; exact hP
    have hD : va_D A (mw K h a (hrow (hrow (hput (hput (hrow (hrow M 0 (if kPlayM R = 0 then mPlay (M 0) R P else M 0)) 2 (remP (M 0) (M 2) c)) 3 (nI (remC c))) 8 (0 : Int32)) 9 E29) 10 (mcR (M 0) R P (M 10) 6))) := by rw [← eR1]; exact hD
    have eR2 : (remP (M 0) (M 2) c) = if kPlayM R = 0 then remP (M 0) (M 2) c else M 2 := by first | exact (if_pos (show kPlayM R = 0 from (by simp [kPlayM, c_11]; done))).symm | exact (if_neg (show ¬ kPlayM R = 0 from (by simp [kPlayM, c_11]; done))).symm | rw [if_pos (show kPlayM R = 0 from (by simp [kPlayM, c_11]; done))] | rw [if_neg (show ¬ kPlayM R = 0 from (by simp [kPlayM, c_11]; done))]
    have hP : va_P K.1 vwCl (mw K h a (hrow (hrow (hput (hput (hrow (hrow M 0 (if kPlayM R = 0 then mPlay (M 0) R P else M 0)) 2 (if kPlayM R = 0 then remP (M 0) (M 2) c else M 2)) 3 (nI (remC c))) 8 (0 : Int32)) 9 E29) 10 (mcR (M 0) R P (M 10) 6))) H := by rw [← eR2]; exact hP
    have hD : va_D A (mw K h a (hrow (hrow (hput (hput (hrow (hrow M 0 (if kPlayM R = 0 then mPlay (M 0) R P else M 0)) 2 (if kPlayM R = 0 then remP (M 0) (M 2) c else M 2)) 3 (nI (remC c))) 8 (0 : Int32)) 9 E29) 10 (mcR (M 0) R P (M 10) 6))) := by rw [← eR2]; exact hD
    have eR3 : (nI (remC c)) = if kPlayM R = 0 then nI (remC c) else M 3 0 := by first | exact (if_pos (show kPlayM R = 0 from (by simp [kPlayM, c_11]; done))).symm | exact (if_neg (show ¬ kPlayM R = 0 from (by simp [kPlayM, c_11]; done))).symm | rw [if_pos (show kPlayM R = 0 from (by simp [kPlayM, c_11]; done))] | rw [if_neg (show ¬ kPlayM R = 0 from (by simp [kPlayM, c_11]; done))]
    have hP : va_P K.1 vwCl (mw K h a (hrow (hrow (hput (hput (hrow (hrow M 0 (if kPlayM R = 0 then mPlay (M 0) R P else M 0)) 2 (if kPlayM R = 0 then remP (M 0) (M 2) c else M 2)) 3 (if kPlayM R = 0 then nI (remC c) else M 3 0)) 8 (0 : Int32)) 9 E29) 10 (mcR (M 0) R P (M 10) 6))) H := by rw [← eR3]; exact hP
    have hD : va_D A (mw K h a (hrow (hrow (hput (hput (hrow (hrow M 0 (if kPlayM R = 0 then mPlay (M 0) R P else M 0)) 2 (if kPlayM R = 0 then remP (M 0) (M 2) c else M 2)) 3 (if kPlayM R = 0 then nI (remC c) else M 3 0)) 8 (0 : Int32)) 9 E29) 10 (mcR (M 0) R P (M 10) 6))) := by rw [← eR3]; exact hD
    have eR4 : (0 : Int32) = nI (kPlayM R) := by exact (congrArg nI (show kPlayM R = _ from (by simp [kPlayM, c_11]; done))).symm
    have hP : va_P K.1 vwCl (mw K h a (hrow (hrow (hput (hput (hrow (hrow M 0 (if kPlayM R = 0 then mPlay (M 0) R P else M 0)) 2 (if kPlayM R = 0 then remP (M 0) (M 2) c else M 2)) 3 (if kPlayM R = 0 then nI (remC c) else M 3 0)) 8 (nI (kPlayM R))) 9 E29) 10 (mcR (M 0) R P (M 10) 6))) H := by rw [← eR4]; exact hP
    have hD : va_D A (mw K h a (hrow (hrow (hput (hput (hrow (hrow M 0 (if kPlayM R = 0 then mPlay (M 0) R P else M 0)) 2 (if kPlayM R = 0 then remP (M 0) (M 2) c else M 2)) 3 (if kPlayM R = 0 then nI (remC c) else M 3 0)) 8 (nI (kPlayM R))) 9 E29) 10 (mcR (M 0) R P (M 10) 6))) := by rw [← eR4]; exact hD
    exact hend _ _ _ _ _ _ _ (E29, mcR (M 0) R P (M 10) 6) hP hD hS (Nat.le_of_ble_eq_true rfl) (Nat.le_of_ble_eq_true rfl) (by first | (intro hk9; rfl; done) | (intro hk9; simp [kPlayM, c_11] at hk9; done)) dX6_play_32
  · skip
    refine lv_aload_n hx hb dX6_play_14 rfl (lv_at hl 0 rfl) ?_
    refine lv_iconst (v := (1 : Int32)) hx hb dX6_play_15 (by decide) ?_
    refine xw_Vi (As := [.int (1 : Int32)]) (rest := []) (wc := mw K h a (hput M 8 (0 : Int32))) (wr := (List.filterMap (fun i => (mw K h a (hput M 8 (0 : Int32)) : va_W)[i]?) ([] : List Nat))) ⟨hx, hb, hml, hown, hts⟩ (c_X6_fails l K h a (hput M 8 (0 : Int32)) (1 : Int32) H.size) (cwV 1 hts gX6_play_X6_fails rfl rfl rfl (by decide +kernel) ⟨Nat.le_of_ble_eq_true rfl, Nat.le_of_ble_eq_true rfl⟩) hK hP hD hS hA [0, 1, 2, 3, 4, 5, 6, 7, 8, 9] [] [0, 1, 2, 3, 4, 5, 6, 7, 8, 9] rfl rfl rfl (fun _u => mw K h a (hput M 8 (1 : Int32))) (fun _ => rfl) 0 6 rfl rfl rfl rfl hl.1 rfl (Nat.le_of_ble_eq_true rfl) (Nat.le_of_ble_eq_true rfl) (Nat.le_of_ble_eq_true rfl) dX6_play_16 (fun r16 _ H locs hq16 hP hD hS => ?_)
    have hP : va_P K.1 vwCl (mw K h a (hput M 8 (1 : Int32))) H := hP
    have hD : va_D A (mw K h a (hput M 8 (1 : Int32))) := hD
    subst hq16
    have hP : va_P K.1 vwCl (mw K h a (hput (hrow M 0 (M 0)) 8 (1 : Int32))) H := hP
    have hD : va_D A (mw K h a (hput (hrow M 0 (M 0)) 8 (1 : Int32))) := hD
    have eR5 : (M 0) = if kPlayM R = 0 then mPlay (M 0) R P else M 0 := by first | exact (if_pos (show kPlayM R = 0 from (by simp [kPlayM, c_11]; done))).symm | exact (if_neg (show ¬ kPlayM R = 0 from (by simp [kPlayM, c_11]; done))).symm | rw [if_pos (show kPlayM R = 0 from (by simp [kPlayM, c_11]; done))] | rw [if_neg (show ¬ kPlayM R = 0 from (by simp [kPlayM, c_11]; done))]
    have hP : va_P K.1 vwCl (mw K h a (hput (hrow M 0 (if kPlayM R = 0 then mPlay (M 0) R P else M 0)) 8 (1 : Int32))) H := by rw [← eR5]; exact hP
    have hD : va_D A (mw K h a (hput (hrow M 0 (if kPlayM R = 0 then mPlay (M 0) R P else M 0)) 8 (1 : Int32))) := by rw [← eR5]; exact hD
    have hP : va_P K.1 vwCl (mw K h a (hput (hrow (hrow M 0 (if kPlayM R = 0 then mPlay (M 0) R P else M 0)) 2 (M 2)) 8 (1 : Int32))) H := hP
    have hD : va_D A (mw K h a (hput (hrow (hrow M 0 (if kPlayM R = 0 then mPlay (M 0) R P else M 0)) 2 (M 2)) 8 (1 : Int32))) := hD
    have eR6 : (M 2) = if kPlayM R = 0 then remP (M 0) (M 2) c else M 2 := by first | exact (if_pos (show kPlayM R = 0 from (by simp [kPlayM, c_11]; done))).symm | exact (if_neg (show ¬ kPlayM R = 0 from (by simp [kPlayM, c_11]; done))).symm | rw [if_pos (show kPlayM R = 0 from (by simp [kPlayM, c_11]; done))] | rw [if_neg (show ¬ kPlayM R = 0 from (by simp [kPlayM, c_11]; done))]
    have hP : va_P K.1 vwCl (mw K h a (hput (hrow (hrow M 0 (if kPlayM R = 0 then mPlay (M 0) R P else M 0)) 2 (if kPlayM R = 0 then remP (M 0) (M 2) c else M 2)) 8 (1 : Int32))) H := by rw [← eR6]; exact hP
    have hD : va_D A (mw K h a (hput (hrow (hrow M 0 (if kPlayM R = 0 then mPlay (M 0) R P else M 0)) 2 (if kPlayM R = 0 then remP (M 0) (M 2) c else M 2)) 8 (1 : Int32))) := by rw [← eR6]; exact hD
    have hP : va_P K.1 vwCl (mw K h a (hput (hput (hrow (hrow M 0 (if kPlayM R = 0 then mPlay (M 0) R P else M 0)) 2 (if kPlayM R = 0 then remP (M 0) (M 2) c else M 2)) 3 ((M 3) 0)) 8 (1 : Int32))) H := hP
    have hD : va_D A (mw K h a (hput (hput (hrow (hrow M 0 (if kPlayM R = 0 then mPlay (M 0) R P else M 0)) 2 (if kPlayM R = 0 then remP (M 0) (M 2) c else M 2)) 3 ((M 3) 0)) 8 (1 : Int32))) := hD
    have eR7 : ((M 3) 0) = if kPlayM R = 0 then nI (remC c) else M 3 0 := by first | exact (if_pos (show kPlayM R = 0 from (by simp [kPlayM, c_11]; done))).symm | exact (if_neg (show ¬ kPlayM R = 0 from (by simp [kPlayM, c_11]; done))).symm | rw [if_pos (show kPlayM R = 0 from (by simp [kPlayM, c_11]; done))] | rw [if_neg (show ¬ kPlayM R = 0 from (by simp [kPlayM, c_11]; done))]
    rw [eR7] at hP hD
    have eR8 : (1 : Int32) = nI (kPlayM R) := by exact (congrArg nI (show kPlayM R = _ from (by simp [kPlayM, c_11]; done))).symm
    have hP : va_P K.1 vwCl (mw K h a (hput (hput (hrow (hrow M 0 (if kPlayM R = 0 then mPlay (M 0) R P else M 0)) 2 (if kPlayM R = 0 then remP (M 0) (M 2) c else M 2)) 3 (if kPlayM R = 0 then nI (remC c) else M 3 0)) 8 (nI (kPlayM R)))) H := by rw [← eR8]; exact hP
    have hD : va_D A (mw K h a (hput (hput (hrow (hrow M 0 (if kPlayM R = 0 then mPlay (M 0) R P else M 0)) 2 (if kPlayM R = 0 then remP (M 0) (M 2) c else M 2)) 3 (if kPlayM R = 0 then nI (remC c) else M 3 0)) 8 (nI (kPlayM R)))) := by rw [← eR8]; exact hD
    exact hend _ _ _ _ _ _ _ (M 9, M 10) hP hD hS (Nat.le_of_ble_eq_true rfl) (Nat.le_of_ble_eq_true rfl) (by first | (intro hk9; rfl; done) | (intro hk9; simp [kPlayM, c_11] at hk9; done)) dX6_play_19

abbrev rm_X6_dark : Room := { frames := 2, cells := 0, slots := 0, locals := 45 }
set_option maxHeartbeats 4000000 in
set_option maxRecDepth 100000 in
theorem c_X6_dark (l : Launch) (K : KX) (h : Nat) (a : Nat → Nat) (M : HV) (n : Int32) (P : Nat) (hP0 : M 0 4 = nI P) (hP0b : P ≤ 10) (c : Nat) (hc0 : M 3 0 = nI c) (hc0b : c ≤ 14) (sz : Nat) : Met l yX6_dark wsX6_dark rm_X6_dark (va_Pc [.ref h, .int n] (xPre K (mw K h a M) sz)) (va_Qi (fun (r9 : Int32) (_u : Unit) => kDark n = 0 → r9 = mDk (M 0) (cN n) P 0) (fun _u t => xPost K (va_A (mw K h a M) sz) (mw K h a (hput (hput (hrow (hrow M 0 (if kDark n = 0 then mDk (M 0) (cN n) P else M 0)) 2 (if kDark n = 0 then remP (M 0) (M 2) c else M 2)) 3 (if kDark n = 0 then nI (remC c) else M 3 0)) 8 (nI (kDark n)))) t) (va_A (mw K h a M) sz)) 0 0 (va_A (mw K h a M) sz) := by
  refine xw_starti (cc := cX6_dark) (maxL := 2) (by decide) rfl (Nat.le_of_ble_eq_true rfl) ?_
  intro p9 e9 s9 m9 below9 meth9 c9 H locs ls A av9 Q9 hx hb hlocks hml hname hts hown hK hP hD hS hA hsz hend hl
  have hown : s9.vm.findClass RX6 = some m9.cls := hown
  have hl : lv_has ls 2 [(0, .ref h), (1, .int n)] := hl
  have hi6 : ∀ w ∈ u_ws RX6 TX6 14, w ∈ wsX6_dark := by decide +kernel
  have lk42 := hts (.fieldLink RX6 42 "StandInsModel" "thrown" "I") (by decide +kernel)
  have lk7 := hts (.fieldLink RX6 7 "StandInsModel" "now" "[I") (by decide +kernel)
  refine lv_aload_n hx hb dX6_dark_0 rfl (lv_at hl 0 rfl) ?_
  refine lv_iconst (v := (0 : Int32)) hx hb dX6_dark_1 (by decide) ?_
  refine va_put (ci := 6) (v := .int (0 : Int32)) (ty := .int) (C := RX6) (T := TX6) (N := 14) hx hb hts hi6 tyX6 tyX6_ok nmX6 hown hK hP hD hS 0 rfl rfl 8 (by decide) lk42 (fun _ h9 => h9) rfl (by decide +kernel) rfl rfl (Nat.le_of_ble_eq_true rfl) dX6_dark_2 (fun H locs hP hD hS => ?_)
  have hP : va_P K.1 vwCl (mw K h a (hput M 8 (0 : Int32))) H := hP
  have hD : va_D A (mw K h a (hput M 8 (0 : Int32))) := hD
  refine lv_iload_n hx hb dX6_dark_5 rfl (lv_at hl 1 rfl) ?_
  refine lv_iconst (v := (1 : Int32)) hx hb dX6_dark_6 (by decide) ?_
  refine lv_bipush (v := (99 : Int32)) hx hb dX6_dark_7 (by decide) ?_
  have hPc := P_sub (ws' := []) hP [] rfl
  refine xr_S (As := [.int n, .int (1 : Int32), .int (99 : Int32)]) (rest := []) ⟨hx, hb, hml, hown, hts⟩ (c_X6_in l K n (1 : Int32) (99 : Int32)) (va_cwS 3 hts gX6_dark_X6_in rfl rfl rfl (by decide +kernel) ⟨Nat.le_of_ble_eq_true rfl, Nat.le_of_ble_eq_true rfl⟩) hK hPc rfl hl.1 rfl (Nat.le_of_ble_eq_true rfl) (Nat.le_of_ble_eq_true rfl) (Nat.le_of_ble_eq_true rfl) dX6_dark_9 ?_
  refine xb_if_ne (tgt := 21) hx hb dX6_dark_12 (by decide) (fun c_12 => ?_) (fun c_12 => ?_)
  · skip
    have hn1 := rng_cN (lo := 1) (hi := 99) c_12 (by decide)
    refine lv_aload_n hx hb dX6_dark_21 rfl (lv_at hl 0 rfl) ?_
    refine xw_Vv (As := []) (rest := []) (wc := mw K h a (hput M 8 (0 : Int32))) (wr := (List.filterMap (fun i => (mw K h a (hput M 8 (0 : Int32)) : va_W)[i]?) ([] : List Nat))) ⟨hx, hb, hml, hown, hts⟩ (c_X6_remembers l K h a (hput M 8 (0 : Int32)) c hc0 (by omega) H.size) (cwV 0 hts gX6_dark_X6_remembers rfl rfl rfl (by decide +kernel) ⟨Nat.le_of_ble_eq_true rfl, Nat.le_of_ble_eq_true rfl⟩) hK hP hD hS hA [0, 1, 2, 3, 4, 5, 6, 7, 8, 9] [] [0, 1, 2, 3, 4, 5, 6, 7, 8, 9] rfl rfl rfl (fun _u => mw K h a (hput (hput (hrow M 2 (remP (M 0) (M 2) c)) 3 (nI (remC c))) 8 (0 : Int32))) (fun _ => rfl) 0 6 rfl rfl rfl rfl hl.1 rfl (Nat.le_of_ble_eq_true rfl) (Nat.le_of_ble_eq_true rfl) (Nat.le_of_ble_eq_true rfl) dX6_dark_22 (fun _ H locs hq22 hP hD hS => ?_)
    have hP : va_P K.1 vwCl (mw K h a (hput (hput (hrow M 2 (remP (M 0) (M 2) c)) 3 (nI (remC c))) 8 (0 : Int32))) H := hP
    have hD : va_D A (mw K h a (hput (hput (hrow M 2 (remP (M 0) (M 2) c)) 3 (nI (remC c))) 8 (0 : Int32))) := hD
    refine lv_aload_n hx hb dX6_dark_25 rfl (lv_at hl 0 rfl) ?_
    refine va_get (ci := 6) (v := .ref (a 0)) (C := RX6) (T := TX6) (N := 14) hx hb hts hi6 hown hK hP 0 rfl rfl 0 (by decide) lk7 (fun _ h9 => h9) rfl dX6_dark_26 ?_
    refine lv_iload_n hx hb dX6_dark_29 rfl (lv_at hl 1 rfl) ?_
    rw [show n = nI (cN n) from hn1.1]
    refine xw_Sv (As := [.ref (a 0), .int (nI (cN n))]) (rest := []) (wc := [((a 0), aI K 190 (M 0))]) (wr := (List.filterMap (fun i => (mw K h a (hput (hput (hrow M 2 (remP (M 0) (M 2) c)) 3 (nI (remC c))) 8 (0 : Int32)) : va_W)[i]?) ([0, 2, 3, 4, 5, 6, 7, 8, 9] : List Nat))) ⟨hx, hb, hml, hown, hts⟩ (c_X6_darkens l K (a 0) (M 0) (cN n) (by omega) P hP0 (by omega) H.size) (va_cwS 2 hts gX6_dark_X6_darkens rfl rfl rfl (by decide +kernel) ⟨Nat.le_of_ble_eq_true rfl, Nat.le_of_ble_eq_true rfl⟩) hK hP hD hS hA [1] [0, 2, 3, 4, 5, 6, 7, 8, 9] [0, 9, 1, 2, 3, 4, 5, 6, 7, 8] rfl rfl rfl (fun _u => mw K h a (hput (hput (hrow (hrow M 0 (mDk (M 0) (cN n) P)) 2 (remP (M 0) (M 2) c)) 3 (nI (remC c))) 8 (0 : Int32))) (fun _ => rfl) rfl hl.1 rfl (Nat.le_of_ble_eq_true rfl) (Nat.le_of_ble_eq_true rfl) (Nat.le_of_ble_eq_true rfl) dX6_dark_30 (fun _ H locs hq30 hP hD hS => ?_)
    have hP : va_P K.1 vwCl (mw K h a (hput (hput (hrow (hrow M 0 (mDk (M 0) (cN n) P)) 2 (remP (M 0) (M 2) c)) 3 (nI (remC c))) 8 (0 : Int32))) H := hP
    have hD : va_D A (mw K h a (hput (hput (hrow (hrow M 0 (mDk (M 0) (cN n) P)) 2 (remP (M 0) (M 2) c)) 3 (nI (remC c))) 8 (0 : Int32))) := hD
    refine lv_aload_n hx hb dX6_dark_33 rfl (lv_at hl 0 rfl) ?_
    refine va_get (ci := 6) (v := .ref (a 0)) (C := RX6) (T := TX6) (N := 14) hx hb hts hi6 hown hK hP 0 rfl rfl 0 (by decide) lk7 (fun _ h9 => h9) rfl dX6_dark_34 ?_
    refine lv_iconst (v := (0 : Int32)) hx hb dX6_dark_37 (by decide) ?_
    refine xi_ld hx hb hK hP 1 (f := (mDk (M 0) (cN n) P)) rfl 0 rfl (by omega) (by decide) dX6_dark_38 ?_
    have eR2 : (mDk (M 0) (cN n) P) = if kDark n = 0 then mDk (M 0) (cN n) P else M 0 := by first | exact (if_pos (show kDark n = 0 from (by simp [kDark, c_12]; done))).symm | exact (if_neg (show ¬ kDark n = 0 from (by simp [kDark, c_12]; done))).symm | rw [if_pos (show kDark n = 0 from (by simp [kDark, c_12]; done))] | rw [if_neg (show ¬ kDark n = 0 from (by simp [kDark, c_12]; done))]
    have hP : va_P K.1 vwCl (mw K h a (hput (hput (hrow (hrow M 0 (if kDark n = 0 then mDk (M 0) (cN n) P else M 0)) 2 (remP (M 0) (M 2) c)) 3 (nI (remC c))) 8 (0 : Int32))) H := by rw [← eR2]; exact hP
    have hD : va_D A (mw K h a (hput (hput (hrow (hrow M 0 (if kDark n = 0 then mDk (M 0) (cN n) P else M 0)) 2 (remP (M 0) (M 2) c)) 3 (nI (remC c))) 8 (0 : Int32))) := by rw [← eR2]; exact hD
    have eR3 : (remP (M 0) (M 2) c) = if kDark n = 0 then remP (M 0) (M 2) c else M 2 := by first | exact (if_pos (show kDark n = 0 from (by simp [kDark, c_12]; done))).symm | exact (if_neg (show ¬ kDark n = 0 from (by simp [kDark, c_12]; done))).symm | rw [if_pos (show kDark n = 0 from (by simp [kDark, c_12]; done))] | rw [if_neg (show ¬ kDark n = 0 from (by simp [kDark, c_12]; done))]
    have hP : va_P K.1 vwCl (mw K h a (hput (hput (hrow (hrow M 0 (if kDark n = 0 then mDk (M 0) (cN n) P else M 0)) 2 (if kDark n = 0 then remP (M 0) (M 2) c else M 2)) 3 (nI (remC c))) 8 (0 : Int32))) H := by rw [← eR3]; exact hP
    have hD : va_D A (mw K h a (hput (hput (hrow (hrow M 0 (if kDark n = 0 then mDk (M 0) (cN n) P else M 0)) 2 (if kDark n = 0 then remP (M 0) (M 2) c else M 2)) 3 (nI (remC c))) 8 (0 : Int32))) := by rw [← eR3]; exact hD
    have eR4 : (nI (remC c)) = if kDark n = 0 then nI (remC c) else M 3 0 := by first | exact (if_pos (show kDark n = 0 from (by simp [kDark, c_12]; done))).symm | exact (if_neg (show ¬ kDark n = 0 from (by simp [kDark, c_12]; done))).symm | rw [if_pos (show kDark n = 0 from (by simp [kDark, c_12]; done))] | rw [if_neg (show ¬ kDark n = 0 from (by simp [kDark, c_12]; done))]
    have hP : va_P K.1 vwCl (mw K h a (hput (hput (hrow (hrow M 0 (if kDark n = 0 then mDk (M 0) (cN n) P else M 0)) 2 (if kDark n = 0 then remP (M 0) (M 2) c else M 2)) 3 (if kDark n = 0 then nI (remC c) else M 3 0)) 8 (0 : Int32))) H := by rw [← eR4]; exact hP
    have hD : va_D A (mw K h a (hput (hput (hrow (hrow M 0 (if kDark n = 0 then mDk (M 0) (cN n) P else M 0)) 2 (if kDark n = 0 then remP (M 0) (M 2) c else M 2)) 3 (if kDark n = 0 then nI (remC c) else M 3 0)) 8 (0 : Int32))) := by rw [← eR4]; exact hD
    have eR5 : (0 : Int32) = nI (kDark n) := by exact (congrArg nI (show kDark n = _ from (by simp [kDark, c_12]; done))).symm
    have hP : va_P K.1 vwCl (mw K h a (hput (hput (hrow (hrow M 0 (if kDark n = 0 then mDk (M 0) (cN n) P else M 0)) 2 (if kDark n = 0 then remP (M 0) (M 2) c else M 2)) 3 (if kDark n = 0 then nI (remC c) else M 3 0)) 8 (nI (kDark n)))) H := by rw [← eR5]; exact hP
    have hD : va_D A (mw K h a (hput (hput (hrow (hrow M 0 (if kDark n = 0 then mDk (M 0) (cN n) P else M 0)) 2 (if kDark n = 0 then remP (M 0) (M 2) c else M 2)) 3 (if kDark n = 0 then nI (remC c) else M 3 0)) 8 (nI (kDark n)))) := by rw [← eR5]; exact hD
    exact hend _ _ _ _ _ _ _ () hP hD hS (Nat.le_of_ble_eq_true rfl) (Nat.le_of_ble_eq_true rfl) (by first | (intro hk9; rfl; done) | (intro hk9; simp [kDark, c_12] at hk9; done)) dX6_dark_39
  · skip
    refine lv_aload_n hx hb dX6_dark_15 rfl (lv_at hl 0 rfl) ?_
    refine lv_iconst (v := (1 : Int32)) hx hb dX6_dark_16 (by decide) ?_
    refine xw_Vi (As := [.int (1 : Int32)]) (rest := []) (wc := mw K h a (hput M 8 (0 : Int32))) (wr := (List.filterMap (fun i => (mw K h a (hput M 8 (0 : Int32)) : va_W)[i]?) ([] : List Nat))) ⟨hx, hb, hml, hown, hts⟩ (c_X6_fails l K h a (hput M 8 (0 : Int32)) (1 : Int32) H.size) (cwV 1 hts gX6_dark_X6_fails rfl rfl rfl (by decide +kernel) ⟨Nat.le_of_ble_eq_true rfl, Nat.le_of_ble_eq_true rfl⟩) hK hP hD hS hA [0, 1, 2, 3, 4, 5, 6, 7, 8, 9] [] [0, 1, 2, 3, 4, 5, 6, 7, 8, 9] rfl rfl rfl (fun _u => mw K h a (hput M 8 (1 : Int32))) (fun _ => rfl) 0 6 rfl rfl rfl rfl hl.1 rfl (Nat.le_of_ble_eq_true rfl) (Nat.le_of_ble_eq_true rfl) (Nat.le_of_ble_eq_true rfl) dX6_dark_17 (fun r17 _ H locs hq17 hP hD hS => ?_)
    have hP : va_P K.1 vwCl (mw K h a (hput M 8 (1 : Int32))) H := hP
    have hD : va_D A (mw K h a (hput M 8 (1 : Int32))) := hD
    subst hq17
    have hP : va_P K.1 vwCl (mw K h a (hput (hrow M 0 (M 0)) 8 (1 : Int32))) H := hP
    have hD : va_D A (mw K h a (hput (hrow M 0 (M 0)) 8 (1 : Int32))) := hD
    have eR6 : (M 0) = if kDark n = 0 then mDk (M 0) (cN n) P else M 0 := by first | exact (if_pos (show kDark n = 0 from (by simp [kDark, c_12]; done))).symm | exact (if_neg (show ¬ kDark n = 0 from (by simp [kDark, c_12]; done))).symm | rw [if_pos (show kDark n = 0 from (by simp [kDark, c_12]; done))] | rw [if_neg (show ¬ kDark n = 0 from (by simp [kDark, c_12]; done))]
    have hP : va_P K.1 vwCl (mw K h a (hput (hrow M 0 (if kDark n = 0 then mDk (M 0) (cN n) P else M 0)) 8 (1 : Int32))) H := by rw [← eR6]; exact hP
    have hD : va_D A (mw K h a (hput (hrow M 0 (if kDark n = 0 then mDk (M 0) (cN n) P else M 0)) 8 (1 : Int32))) := by rw [← eR6]; exact hD
    have hP : va_P K.1 vwCl (mw K h a (hput (hrow (hrow M 0 (if kDark n = 0 then mDk (M 0) (cN n) P else M 0)) 2 (M 2)) 8 (1 : Int32))) H := hP
    have hD : va_D A (mw K h a (hput (hrow (hrow M 0 (if kDark n = 0 then mDk (M 0) (cN n) P else M 0)) 2 (M 2)) 8 (1 : Int32))) := hD
    have eR7 : (M 2) = if kDark n = 0 then remP (M 0) (M 2) c else M 2 := by first | exact (if_pos (show kDark n = 0 from (by simp [kDark, c_12]; done))).symm | exact (if_neg (show ¬ kDark n = 0 from (by simp [kDark, c_12]; done))).symm | rw [if_pos (show kDark n = 0 from (by simp [kDark, c_12]; done))] | rw [if_neg (show ¬ kDark n = 0 from (by simp [kDark, c_12]; done))]
    have hP : va_P K.1 vwCl (mw K h a (hput (hrow (hrow M 0 (if kDark n = 0 then mDk (M 0) (cN n) P else M 0)) 2 (if kDark n = 0 then remP (M 0) (M 2) c else M 2)) 8 (1 : Int32))) H := by rw [← eR7]; exact hP
    have hD : va_D A (mw K h a (hput (hrow (hrow M 0 (if kDark n = 0 then mDk (M 0) (cN n) P else M 0)) 2 (if kDark n = 0 then remP (M 0) (M 2) c else M 2)) 8 (1 : Int32))) := by rw [← eR7]; exact hD
    have hP : va_P K.1 vwCl (mw K h a (hput (hput (hrow (hrow M 0 (if kDark n = 0 then mDk (M 0) (cN n) P else M 0)) 2 (if kDark n = 0 then remP (M 0) (M 2) c else M 2)) 3 ((M 3) 0)) 8 (1 : Int32))) H := hP
    have hD : va_D A (mw K h a (hput (hput (hrow (hrow M 0 (if kDark n = 0 then mDk (M 0) (cN n) P else M 0)) 2 (if kDark n = 0 then remP (M 0) (M 2) c else M 2)) 3 ((M 3) 0)) 8 (1 : Int32))) := hD
    have eR8 : ((M 3) 0) = if kDark n = 0 then nI (remC c) else M 3 0 := by first | exact (if_pos (show kDark n = 0 from (by simp [kDark, c_12]; done))).symm | exact (if_neg (show ¬ kDark n = 0 from (by simp [kDark, c_12]; done))).symm | rw [if_pos (show kDark n = 0 from (by simp [kDark, c_12]; done))] | rw [if_neg (show ¬ kDark n = 0 from (by simp [kDark, c_12]; done))]
    rw [eR8] at hP hD
    have eR9 : (1 : Int32) = nI (kDark n) := by exact (congrArg nI (show kDark n = _ from (by simp [kDark, c_12]; done))).symm
    have hP : va_P K.1 vwCl (mw K h a (hput (hput (hrow (hrow M 0 (if kDark n = 0 then mDk (M 0) (cN n) P else M 0)) 2 (if kDark n = 0 then remP (M 0) (M 2) c else M 2)) 3 (if kDark n = 0 then nI (remC c) else M 3 0)) 8 (nI (kDark n)))) H := by rw [← eR9]; exact hP
    have hD : va_D A (mw K h a (hput (hput (hrow (hrow M 0 (if kDark n = 0 then mDk (M 0) (cN n) P else M 0)) 2 (if kDark n = 0 then remP (M 0) (M 2) c else M 2)) 3 (if kDark n = 0 then nI (remC c) else M 3 0)) 8 (nI (kDark n)))) := by rw [← eR9]; exact hD
    exact hend _ _ _ _ _ _ _ () hP hD hS (Nat.le_of_ble_eq_true rfl) (Nat.le_of_ble_eq_true rfl) (by first | (intro hk9; rfl; done) | (intro hk9; simp [kDark, c_12] at hk9; done)) dX6_dark_20

abbrev rm_X6_timesOf : Room := { frames := 0, cells := 0, slots := 0, locals := 0 }
set_option maxHeartbeats 4000000 in
set_option maxRecDepth 100000 in
theorem c_X6_timesOf (l : Launch) (K : KX) (h : Nat) (a : Nat → Nat) (M : HV) (x : Int32) (r : Nat) (hr : r < 6) (hpn : isPn x) : Met l yX6_timesOf wsX6_timesOf rm_X6_timesOf (va_Pc [.ref h, .int x, .int (nI r)] (xRead K (mw K h a M))) (vp_Si (fun r9 => r9 = tmM (M 0) x r)) 0 0 (fun _ => False) := by
  refine xr_starti (cc := cX6_timesOf) (maxL := 3) (by decide) rfl (Nat.le_of_ble_eq_true rfl) ?_
  intro p9 e9 s9 m9 below9 meth9 c9 H ls av9 Q9 hx hb hlocks hml hts hown hK hP hend hl
  have hown : s9.vm.findClass RX6 = some m9.cls := hown
  have hl : lv_has ls 3 [(0, .ref h), (1, .int x), (2, .int (nI r))] := hl
  have hi6 : ∀ w ∈ u_ws RX6 TX6 14, w ∈ wsX6_timesOf := by decide +kernel
  have lk7 := hts (.fieldLink RX6 7 "StandInsModel" "now" "[I") (by decide +kernel)
  refine lv_iload_n hx hb dX6_timesOf_0 rfl (lv_at hl 1 rfl) ?_
  refine lv_iconst (v := (-1 : Int32)) hx hb dX6_timesOf_1 (by decide) ?_
  refine lv_icmp_ne (tgt := 9) hx hb dX6_timesOf_2 (by decide) (fun c_2 => ?_) (fun c_2 => ?_)
  · skip
    have hx9 := isPn_cl hpn c_2
    refine lv_aload_n hx hb dX6_timesOf_9 rfl (lv_at hl 0 rfl) ?_
    refine va_get (ci := 6) (v := .ref (a 0)) (C := RX6) (T := TX6) (N := 14) hx hb hts hi6 hown hK hP 0 rfl rfl 0 (by decide) lk7 (fun _ h9 => h9) rfl dX6_timesOf_10 ?_
    refine lv_sipush (v := (130 : Int32)) hx hb dX6_timesOf_13 (by decide) ?_
    refine lv_bipush (v := (6 : Int32)) hx hb dX6_timesOf_16 (by decide) ?_
    refine lv_iload_n hx hb dX6_timesOf_18 rfl (lv_at hl 1 rfl) ?_
    refine lv_imul hx hb dX6_timesOf_19 ?_
    refine lv_iadd hx hb dX6_timesOf_20 ?_
    refine lv_iload_n hx hb dX6_timesOf_21 rfl (lv_at hl 2 rfl) ?_
    refine lv_iadd hx hb dX6_timesOf_22 ?_
    refine xi_ld hx hb hK hP 1 (f := M 0) rfl ((130 + (6 * (cN x))) + r) (nn_add (nn_add rfl (nn_mul rfl hx9.1)) rfl) (by omega) (by decide) dX6_timesOf_23 ?_
    exact hend _ _ _ (by first | exact (if_pos c_2).symm | exact (if_neg c_2).symm) dX6_timesOf_24
  · skip
    refine lv_iconst (v := (0 : Int32)) hx hb dX6_timesOf_5 (by decide) ?_
    refine lv_goto (tgt := 24) hx hb dX6_timesOf_6 (by decide) ?_
    exact hend _ _ _ (by first | exact (if_pos c_2).symm | exact (if_neg c_2).symm) dX6_timesOf_24

abbrev rm_X6_promote : Room := { frames := 2, cells := 0, slots := 0, locals := 45 }
set_option maxHeartbeats 4000000 in
set_option maxRecDepth 100000 in
theorem c_X6_promote (l : Launch) (K : KX) (h : Nat) (a : Nat → Nat) (M : HV) (r : Int32) (R : Nat) (hR0 : M 0 3 = nI R) (hR0b : R ≤ 6) (P : Nat) (hP0 : M 0 4 = nI P) (hP0b : P ≤ 10) (c : Nat) (hc0 : M 3 0 = nI c) (hc0b : c ≤ 14) (hfp : ∀ q, q < R → isPn (M 0 (18 + q))) (sz : Nat) : Met l yX6_promote wsX6_promote rm_X6_promote (va_Pc [.ref h, .int r] (xPre K (mw K h a M) sz)) (va_Qi (fun (r9 : Int32) (_u : Unit) => kPromM (M 0) P r = 0 → r9 = prM (M 0) (cN r) P (M 0 (18 + cN r))) (fun _u t => xPost K (va_A (mw K h a M) sz) (mw K h a (hput (hput (hrow (hrow M 0 (if kPromM (M 0) P r = 0 then upd (M 0) (18 + cN r) (prM (M 0) (cN r) P (M 0 (18 + cN r))) else M 0)) 2 (if kPromM (M 0) P r = 0 then remP (M 0) (M 2) c else M 2)) 3 (if kPromM (M 0) P r = 0 then nI (remC c) else M 3 0)) 8 (nI (kPromM (M 0) P r)))) t) (va_A (mw K h a M) sz)) 0 0 (va_A (mw K h a M) sz) := by
  refine xw_starti (cc := cX6_promote) (maxL := 5) (by decide) rfl (Nat.le_of_ble_eq_true rfl) ?_
  intro p9 e9 s9 m9 below9 meth9 c9 H locs ls A av9 Q9 hx hb hlocks hml hname hts hown hK hP hD hS hA hsz hend hl
  have hown : s9.vm.findClass RX6 = some m9.cls := hown
  have hl : lv_has ls 5 [(0, .ref h), (1, .int r)] := hl
  have hi6 : ∀ w ∈ u_ws RX6 TX6 14, w ∈ wsX6_promote := by decide +kernel
  have lk42 := hts (.fieldLink RX6 42 "StandInsModel" "thrown" "I") (by decide +kernel)
  have lk7 := hts (.fieldLink RX6 7 "StandInsModel" "now" "[I") (by decide +kernel)
  refine lv_aload_n hx hb dX6_promote_0 rfl (lv_at hl 0 rfl) ?_
  refine lv_iconst (v := (0 : Int32)) hx hb dX6_promote_1 (by decide) ?_
  refine va_put (ci := 6) (v := .int (0 : Int32)) (ty := .int) (C := RX6) (T := TX6) (N := 14) hx hb hts hi6 tyX6 tyX6_ok nmX6 hown hK hP hD hS 0 rfl rfl 8 (by decide) lk42 (fun _ h9 => h9) rfl (by decide +kernel) rfl rfl (Nat.le_of_ble_eq_true rfl) dX6_promote_2 (fun H locs hP hD hS => ?_)
  have hP : va_P K.1 vwCl (mw K h a (hput M 8 (0 : Int32))) H := hP
  have hD : va_D A (mw K h a (hput M 8 (0 : Int32))) := hD
  refine lv_aload_n hx hb dX6_promote_5 rfl (lv_at hl 0 rfl) ?_
  refine va_get (ci := 6) (v := .ref (a 0)) (C := RX6) (T := TX6) (N := 14) hx hb hts hi6 hown hK hP 0 rfl rfl 0 (by decide) lk7 (fun _ h9 => h9) rfl dX6_promote_6 ?_
  refine lv_iload_n hx hb dX6_promote_9 rfl (lv_at hl 1 rfl) ?_
  have hPc := P_sub (ws' := [((a 0), aI K 190 (M 0))]) hP [1] rfl
  refine xr_S (As := [.ref (a 0), .int r]) (rest := []) ⟨hx, hb, hml, hown, hts⟩ (c_X6_isRole l K (a 0) (M 0) r R hR0 (by omega)) (va_cwS 2 hts gX6_promote_X6_isRole rfl rfl rfl (by decide +kernel) ⟨Nat.le_of_ble_eq_true rfl, Nat.le_of_ble_eq_true rfl⟩) hK hPc rfl hl.1 rfl (Nat.le_of_ble_eq_true rfl) (Nat.le_of_ble_eq_true rfl) (Nat.le_of_ble_eq_true rfl) dX6_promote_10 ?_
  refine xb_if_ne (tgt := 22) hx hb dX6_promote_13 (by decide) (fun c_13 => ?_) (fun c_13 => ?_)
  · skip
    have hn1 := idx_cN hR0 (by omega) c_13
    have hfr := hfp (cN r) (by omega)
    refine lv_aload_n hx hb dX6_promote_22 rfl (lv_at hl 0 rfl) ?_
    refine va_get (ci := 6) (v := .ref (a 0)) (C := RX6) (T := TX6) (N := 14) hx hb hts hi6 hown hK hP 0 rfl rfl 0 (by decide) lk7 (fun _ h9 => h9) rfl dX6_promote_23 ?_
    refine lv_bipush (v := (18 : Int32)) hx hb dX6_promote_26 (by decide) ?_
    refine lv_iload_n hx hb dX6_promote_28 rfl (lv_at hl 1 rfl) ?_
    refine lv_iadd hx hb dX6_promote_29 ?_
    refine xi_ld hx hb hK hP 1 (f := M 0) rfl (18 + (cN r)) (nn_add rfl hn1.1) (by omega) (by decide) dX6_promote_30 ?_
    refine lv_istore_n (lv' := [(2, .int (M 0 (18 + (cN r)))), (0, .ref h), (1, .int r)]) hx hb dX6_promote_31 rfl hl (by decide) rfl (fun ls hl => ?_)
    refine lv_aload_n hx hb dX6_promote_32 rfl (lv_at hl 1 rfl) ?_
    refine va_get (ci := 6) (v := .ref (a 0)) (C := RX6) (T := TX6) (N := 14) hx hb hts hi6 hown hK hP 0 rfl rfl 0 (by decide) lk7 (fun _ h9 => h9) rfl dX6_promote_33 ?_
    refine lv_iconst (v := (4 : Int32)) hx hb dX6_promote_36 (by decide) ?_
    refine xi_ld hx hb hK hP 1 (f := M 0) rfl 4 rfl (by omega) (by decide) dX6_promote_37 ?_
    refine lv_iconst (v := (1 : Int32)) hx hb dX6_promote_38 (by decide) ?_
    refine lv_isub hx hb dX6_promote_39 ?_
    refine lv_istore_n (lv' := [(3, .int ((M 0 4) - (1 : Int32))), (2, .int (M 0 (18 + (cN r)))), (0, .ref h), (1, .int r)]) hx hb dX6_promote_40 rfl hl (by decide) rfl (fun ls hl => ?_)
    have lp41 : ∀ (n9 : Nat) (x : Int32) (t : Nat) (b : Int32) (H : Heap) (locs : List Loc) (ls : Array Slot), t < n9 → (x + 1 = nI t) → (t ≤ P) → (isPn b) → (prM (M 0) (cN r) t b = prM (M 0) (cN r) P (M 0 (18 + cN r))) → va_P K.1 vwCl (mw K h a (hput M 8 (0 : Int32))) H → va_D A (mw K h a (hput M 8 (0 : Int32))) → va_S A s9.heap H locs → lv_has ls 5 [(0, .ref h), (1, .int r), (2, .int b), (3, .int x)] → W p9 l e9 rm_X6_promote s9 m9 av9 below9 meth9 c9 H locs 0 0 Q9 (F0 m9 41 ls []) := by
      intro n9
      induction n9 with
      | zero => intro x t b H locs ls hmu hxx ht hbp hpr hP hD hS hl; exact absurd hmu (Nat.not_lt_zero _)
      | succ n9 ih41 =>
        intro x t b H locs ls hmu hxx ht hbp hpr hP hD hS hl
        refine lv_iload_n hx hb dX6_promote_41 rfl (lv_at hl 3 rfl) ?_
        refine lv_if_lt (tgt := 107) hx hb dX6_promote_42 (by decide) (fun c_42 => ?_) (fun c_42 => ?_)
        · skip
          have c_42n := Int32.not_le.mpr c_42
          have ht0 : t = 0 := nn_neg hxx (by omega) c_42
          subst ht0
          have hbe : b = prM (M 0) (cN r) P (M 0 (18 + cN r)) := hpr
          refine lv_iload_n hx hb dX6_promote_107 rfl (lv_at hl 2 rfl) ?_
          refine lv_aload_n hx hb dX6_promote_108 rfl (lv_at hl 0 rfl) ?_
          refine va_get (ci := 6) (v := .ref (a 0)) (C := RX6) (T := TX6) (N := 14) hx hb hts hi6 hown hK hP 0 rfl rfl 0 (by decide) lk7 (fun _ h9 => h9) rfl dX6_promote_109 ?_
          refine lv_bipush (v := (18 : Int32)) hx hb dX6_promote_112 (by decide) ?_
          refine lv_iload_n hx hb dX6_promote_114 rfl (lv_at hl 1 rfl) ?_
          refine lv_iadd hx hb dX6_promote_115 ?_
          refine xi_ld hx hb hK hP 1 (f := M 0) rfl (18 + (cN r)) (nn_add rfl hn1.1) (by omega) (by decide) dX6_promote_116 ?_
          refine lv_icmp_ne (tgt := 126) hx hb dX6_promote_117 (by decide) (fun c_117 => ?_) (fun c_117 => ?_)
          · skip
            refine lv_aload_n hx hb dX6_promote_126 rfl (lv_at hl 0 rfl) ?_
            refine xw_Vv (As := []) (rest := []) (wc := mw K h a (hput M 8 (0 : Int32))) (wr := (List.filterMap (fun i => (mw K h a (hput M 8 (0 : Int32)) : va_W)[i]?) ([] : List Nat))) ⟨hx, hb, hml, hown, hts⟩ (c_X6_remembers l K h a (hput M 8 (0 : Int32)) c hc0 (by omega) H.size) (cwV 0 hts gX6_promote_X6_remembers rfl rfl rfl (by decide +kernel) ⟨Nat.le_of_ble_eq_true rfl, Nat.le_of_ble_eq_true rfl⟩) hK hP hD hS hA [0, 1, 2, 3, 4, 5, 6, 7, 8, 9] [] [0, 1, 2, 3, 4, 5, 6, 7, 8, 9] rfl rfl rfl (fun _u => mw K h a (hput (hput (hrow M 2 (remP (M 0) (M 2) c)) 3 (nI (remC c))) 8 (0 : Int32))) (fun _ => rfl) 0 6 rfl rfl rfl rfl hl.1 rfl (Nat.le_of_ble_eq_true rfl) (Nat.le_of_ble_eq_true rfl) (Nat.le_of_ble_eq_true rfl) dX6_promote_127 (fun _ H locs hq127 hP hD hS => ?_)
            have hP : va_P K.1 vwCl (mw K h a (hput (hput (hrow M 2 (remP (M 0) (M 2) c)) 3 (nI (remC c))) 8 (0 : Int32))) H := hP
            have hD : va_D A (mw K h a (hput (hput (hrow M 2 (remP (M 0) (M 2) c)) 3 (nI (remC c))) 8 (0 : Int32))) := hD
            refine lv_aload_n hx hb dX6_promote_130 rfl (lv_at hl 0 rfl) ?_
            refine va_get (ci := 6) (v := .ref (a 0)) (C := RX6) (T := TX6) (N := 14) hx hb hts hi6 hown hK hP 0 rfl rfl 0 (by decide) lk7 (fun _ h9 => h9) rfl dX6_promote_131 ?_
            refine lv_bipush (v := (18 : Int32)) hx hb dX6_promote_134 (by decide) ?_
            refine lv_iload_n hx hb dX6_promote_136 rfl (lv_at hl 1 rfl) ?_
            refine lv_iadd hx hb dX6_promote_137 ?_
            refine lv_iload_n hx hb dX6_promote_138 rfl (lv_at hl 2 rfl) ?_
            refine xi_st hx hb hK hP hD hS 1 (f := M 0) rfl (18 + (cN r)) (nn_add rfl hn1.1) (by omega) (by decide) (mw K h a (hput (hput (hrow (hrow M 0 (upd (M 0) (18 + (cN r)) b)) 2 (remP (M 0) (M 2) c)) 3 (nI (remC c))) 8 (0 : Int32))) rfl dX6_promote_139 (fun H locs hP hD hS => ?_)
            refine lv_iload_n hx hb dX6_promote_140 rfl (lv_at hl 2 rfl) ?_
            have eR2 : (upd (M 0) (18 + (cN r)) b) = if kPromM (M 0) P r = 0 then upd (M 0) (18 + cN r) (prM (M 0) (cN r) P (M 0 (18 + cN r))) else M 0 := by first | exact (if_neg (show ¬ kPromM (M 0) P r = 0 from (by first | (simp [kPromM, c_13]; done) | (unfold kPromM; rw [if_neg (fun z => z c_13), ← hbe, if_pos c_117]; decide)))).symm | (rw [if_pos (show kPromM (M 0) P r = 0 from (by unfold kPromM; rw [if_neg (fun z => z c_13), ← hbe]; exact if_neg c_117))]; first | done | rw [hbe])
            rw [eR2] at hP hD
            have eR3 : (remP (M 0) (M 2) c) = if kPromM (M 0) P r = 0 then remP (M 0) (M 2) c else M 2 := by first | exact (if_neg (show ¬ kPromM (M 0) P r = 0 from (by first | (simp [kPromM, c_13]; done) | (unfold kPromM; rw [if_neg (fun z => z c_13), ← hbe, if_pos c_117]; decide)))).symm | (rw [if_pos (show kPromM (M 0) P r = 0 from (by unfold kPromM; rw [if_neg (fun z => z c_13), ← hbe]; exact if_neg c_117))]; first | done | rw [hbe])
            have hP : va_P K.1 vwCl (mw K h a (hput (hput (hrow (hrow M 0 (if kPromM (M 0) P r = 0 then upd (M 0) (18 + cN r) (prM (M 0) (cN r) P (M 0 (18 + cN r))) else M 0)) 2 (if kPromM (M 0) P r = 0 then remP (M 0) (M 2) c else M 2)) 3 (nI (remC c))) 8 (0 : Int32))) H := by rw [← eR3]; exact hP
            have hD : va_D A (mw K h a (hput (hput (hrow (hrow M 0 (if kPromM (M 0) P r = 0 then upd (M 0) (18 + cN r) (prM (M 0) (cN r) P (M 0 (18 + cN r))) else M 0)) 2 (if kPromM (M 0) P r = 0 then remP (M 0) (M 2) c else M 2)) 3 (nI (remC c))) 8 (0 : Int32))) := by rw [← eR3]; exact hD
            have eR4 : (nI (remC c)) = if kPromM (M 0) P r = 0 then nI (remC c) else M 3 0 := by first | exact (if_neg (show ¬ kPromM (M 0) P r = 0 from (by first | (simp [kPromM, c_13]; done) | (unfold kPromM; rw [if_neg (fun z => z c_13), ← hbe, if_pos c_117]; decide)))).symm | (rw [if_pos (show kPromM (M 0) P r = 0 from (by unfold kPromM; rw [if_neg (fun z => z c_13), ← hbe]; exact if_neg c_117))]; first | done | rw [hbe])
            have hP : va_P K.1 vwCl (mw K h a (hput (hput (hrow (hrow M 0 (if kPromM (M 0) P r = 0 then upd (M 0) (18 + cN r) (prM (M 0) (cN r) P (M 0 (18 + cN r))) else M 0)) 2 (if kPromM (M 0) P r = 0 then remP (M 0) (M 2) c else M 2)) 3 (if kPromM (M 0) P r = 0 then nI (remC c) else M 3 0)) 8 (0 : Int32))) H := by rw [← eR4]; exact hP
            have hD : va_D A (mw K h a (hput (hput (hrow (hrow M 0 (if kPromM (M 0) P r = 0 then upd (M 0) (18 + cN r) (prM (M 0) (cN r) P (M 0 (18 + cN r))) else M 0)) 2 (if kPromM (M 0) P r = 0 then remP (M 0) (M 2) c else M 2)) 3 (if kPromM (M 0) P r = 0 then nI (remC c) else M 3 0)) 8 (0 : Int32))) := by rw [← eR4]; exact hD
            have eR5 : (0 : Int32) = nI (kPromM (M 0) P r) := by exact (congrArg nI (show kPromM (M 0) P r = _ from (by first | (simp [kPromM, c_13]; done) | (unfold kPromM; rw [if_neg (fun z => z c_13), ← hbe]; first | exact if_pos c_117 | exact if_neg c_117)))).symm
            have hP : va_P K.1 vwCl (mw K h a (hput (hput (hrow (hrow M 0 (if kPromM (M 0) P r = 0 then upd (M 0) (18 + cN r) (prM (M 0) (cN r) P (M 0 (18 + cN r))) else M 0)) 2 (if kPromM (M 0) P r = 0 then remP (M 0) (M 2) c else M 2)) 3 (if kPromM (M 0) P r = 0 then nI (remC c) else M 3 0)) 8 (nI (kPromM (M 0) P r)))) H := by rw [← eR5]; exact hP
            have hD : va_D A (mw K h a (hput (hput (hrow (hrow M 0 (if kPromM (M 0) P r = 0 then upd (M 0) (18 + cN r) (prM (M 0) (cN r) P (M 0 (18 + cN r))) else M 0)) 2 (if kPromM (M 0) P r = 0 then remP (M 0) (M 2) c else M 2)) 3 (if kPromM (M 0) P r = 0 then nI (remC c) else M 3 0)) 8 (nI (kPromM (M 0) P r)))) := by rw [← eR5]; exact hD
            exact hend _ _ _ _ _ _ _ () hP hD hS (Nat.le_of_ble_eq_true rfl) (Nat.le_of_ble_eq_true rfl) (by first | exact (fun z => absurd z (show ¬ kPromM (M 0) P r = 0 from (by first | (simp [kPromM, c_13]; done) | (unfold kPromM; rw [if_neg (fun z => z c_13), ← hbe, if_pos c_117]; decide)))) | exact fun _ => hbe) dX6_promote_141
          · skip
            refine lv_aload_n hx hb dX6_promote_120 rfl (lv_at hl 0 rfl) ?_
            refine lv_iconst (v := (2 : Int32)) hx hb dX6_promote_121 (by decide) ?_
            refine xw_Vi (As := [.int (2 : Int32)]) (rest := []) (wc := mw K h a (hput M 8 (0 : Int32))) (wr := (List.filterMap (fun i => (mw K h a (hput M 8 (0 : Int32)) : va_W)[i]?) ([] : List Nat))) ⟨hx, hb, hml, hown, hts⟩ (c_X6_fails l K h a (hput M 8 (0 : Int32)) (2 : Int32) H.size) (cwV 1 hts gX6_promote_X6_fails rfl rfl rfl (by decide +kernel) ⟨Nat.le_of_ble_eq_true rfl, Nat.le_of_ble_eq_true rfl⟩) hK hP hD hS hA [0, 1, 2, 3, 4, 5, 6, 7, 8, 9] [] [0, 1, 2, 3, 4, 5, 6, 7, 8, 9] rfl rfl rfl (fun _u => mw K h a (hput M 8 (2 : Int32))) (fun _ => rfl) 0 6 rfl rfl rfl rfl hl.1 rfl (Nat.le_of_ble_eq_true rfl) (Nat.le_of_ble_eq_true rfl) (Nat.le_of_ble_eq_true rfl) dX6_promote_122 (fun r122 _ H locs hq122 hP hD hS => ?_)
            have hP : va_P K.1 vwCl (mw K h a (hput M 8 (2 : Int32))) H := hP
            have hD : va_D A (mw K h a (hput M 8 (2 : Int32))) := hD
            subst hq122
            have hP : va_P K.1 vwCl (mw K h a (hput (hrow M 0 (M 0)) 8 (2 : Int32))) H := hP
            have hD : va_D A (mw K h a (hput (hrow M 0 (M 0)) 8 (2 : Int32))) := hD
            have eR6 : (M 0) = if kPromM (M 0) P r = 0 then upd (M 0) (18 + cN r) (prM (M 0) (cN r) P (M 0 (18 + cN r))) else M 0 := by first | exact (if_neg (show ¬ kPromM (M 0) P r = 0 from (by first | (simp [kPromM, c_13]; done) | (unfold kPromM; rw [if_neg (fun z => z c_13), ← hbe, if_pos c_117]; decide)))).symm | (rw [if_pos (show kPromM (M 0) P r = 0 from (by unfold kPromM; rw [if_neg (fun z => z c_13), ← hbe]; exact if_neg c_117))]; first | done | rw [hbe])
            have hP : va_P K.1 vwCl (mw K h a (hput (hrow M 0 (if kPromM (M 0) P r = 0 then upd (M 0) (18 + cN r) (prM (M 0) (cN r) P (M 0 (18 + cN r))) else M 0)) 8 (2 : Int32))) H := by rw [← eR6]; exact hP
            have hD : va_D A (mw K h a (hput (hrow M 0 (if kPromM (M 0) P r = 0 then upd (M 0) (18 + cN r) (prM (M 0) (cN r) P (M 0 (18 + cN r))) else M 0)) 8 (2 : Int32))) := by rw [← eR6]; exact hD
            have hP : va_P K.1 vwCl (mw K h a (hput (hrow (hrow M 0 (if kPromM (M 0) P r = 0 then upd (M 0) (18 + cN r) (prM (M 0) (cN r) P (M 0 (18 + cN r))) else M 0)) 2 (M 2)) 8 (2 : Int32))) H := hP
            have hD : va_D A (mw K h a (hput (hrow (hrow M 0 (if kPromM (M 0) P r = 0 then upd (M 0) (18 + cN r) (prM (M 0) (cN r) P (M 0 (18 + cN r))) else M 0)) 2 (M 2)) 8 (2 : Int32))) := hD
            have eR7 : (M 2) = if kPromM (M 0) P r = 0 then remP (M 0) (M 2) c else M 2 := by first | exact (if_neg (show ¬ kPromM (M 0) P r = 0 from (by first | (simp [kPromM, c_13]; done) | (unfold kPromM; rw [if_neg (fun z => z c_13), ← hbe, if_pos c_117]; decide)))).symm | (rw [if_pos (show kPromM (M 0) P r = 0 from (by unfold kPromM; rw [if_neg (fun z => z c_13), ← hbe]; exact if_neg c_117))]; first | done | rw [hbe])
            have hP : va_P K.1 vwCl (mw K h a (hput (hrow (hrow M 0 (if kPromM (M 0) P r = 0 then upd (M 0) (18 + cN r) (prM (M 0) (cN r) P (M 0 (18 + cN r))) else M 0)) 2 (if kPromM (M 0) P r = 0 then remP (M 0) (M 2) c else M 2)) 8 (2 : Int32))) H := by rw [← eR7]; exact hP
            have hD : va_D A (mw K h a (hput (hrow (hrow M 0 (if kPromM (M 0) P r = 0 then upd (M 0) (18 + cN r) (prM (M 0) (cN r) P (M 0 (18 + cN r))) else M 0)) 2 (if kPromM (M 0) P r = 0 then remP (M 0) (M 2) c else M 2)) 8 (2 : Int32))) := by rw [← eR7]; exact hD
            have hP : va_P K.1 vwCl (mw K h a (hput (hput (hrow (hrow M 0 (if kPromM (M 0) P r = 0 then upd (M 0) (18 + cN r) (prM (M 0) (cN r) P (M 0 (18 + cN r))) else M 0)) 2 (if kPromM (M 0) P r = 0 then remP (M 0) (M 2) c else M 2)) 3 ((M 3) 0)) 8 (2 : Int32))) H := hP
            have hD : va_D A (mw K h a (hput (hput (hrow (hrow M 0 (if kPromM (M 0) P r = 0 then upd (M 0) (18 + cN r) (prM (M 0) (cN r) P (M 0 (18 + cN r))) else M 0)) 2 (if kPromM (M 0) P r = 0 then remP (M 0) (M 2) c else M 2)) 3 ((M 3) 0)) 8 (2 : Int32))) := hD
            have eR8 : ((M 3) 0) = if kPromM (M 0) P r = 0 then nI (remC c) else M 3 0 := by first | exact (if_neg (show ¬ kPromM (M 0) P r = 0 from (by first | (simp [kPromM, c_13]; done) | (unfold kPromM; rw [if_neg (fun z => z c_13), ← hbe, if_pos c_117]; decide)))).symm | (rw [if_pos (show kPromM (M 0) P r = 0 from (by unfold kPromM; rw [if_neg (fun z => z c_13), ← hbe]; exact if_neg c_117))]; first | done | rw [hbe])
            rw [eR8] at hP hD
            have eR9 : (2 : Int32) = nI (kPromM (M 0) P r) := by exact (congrArg nI (show kPromM (M 0) P r = _ from (by first | (simp [kPromM, c_13]; done) | (unfold kPromM; rw [if_neg (fun z => z c_13), ← hbe]; first | exact if_pos c_117 | exact if_neg c_117)))).symm
            have hP : va_P K.1 vwCl (mw K h a (hput (hput (hrow (hrow M 0 (if kPromM (M 0) P r = 0 then upd (M 0) (18 + cN r) (prM (M 0) (cN r) P (M 0 (18 + cN r))) else M 0)) 2 (if kPromM (M 0) P r = 0 then remP (M 0) (M 2) c else M 2)) 3 (if kPromM (M 0) P r = 0 then nI (remC c) else M 3 0)) 8 (nI (kPromM (M 0) P r)))) H := by rw [← eR9]; exact hP
            have hD : va_D A (mw K h a (hput (hput (hrow (hrow M 0 (if kPromM (M 0) P r = 0 then upd (M 0) (18 + cN r) (prM (M 0) (cN r) P (M 0 (18 + cN r))) else M 0)) 2 (if kPromM (M 0) P r = 0 then remP (M 0) (M 2) c else M 2)) 3 (if kPromM (M 0) P r = 0 then nI (remC c) else M 3 0)) 8 (nI (kPromM (M 0) P r)))) := by rw [← eR9]; exact hD
            exact hend _ _ _ _ _ _ _ () hP hD hS (Nat.le_of_ble_eq_true rfl) (Nat.le_of_ble_eq_true rfl) (by first | exact (fun z => absurd z (show ¬ kPromM (M 0) P r = 0 from (by first | (simp [kPromM, c_13]; done) | (unfold kPromM; rw [if_neg (fun z => z c_13), ← hbe, if_pos c_117]; decide)))) | exact fun _ => hbe) dX6_promote_125
        · skip
          have c_42n := Int32.not_lt.mp c_42
          have htp : 0 < t := nn_npos hxx c_42
          obtain ⟨u, rfl⟩ : ∃ u, t = u + 1 := ⟨t - 1, by omega⟩
          have hxt : x = nI u := nn_dec hxx htp
          subst hxt
          have hun : isPn (nI u) := Or.inr ⟨u, by omega, rfl⟩
          refine lv_aload_n hx hb dX6_promote_45 rfl (lv_at hl 0 rfl) ?_
          refine lv_iload_n hx hb dX6_promote_46 rfl (lv_at hl 3 rfl) ?_
          refine lv_iload_n hx hb dX6_promote_47 rfl (lv_at hl 1 rfl) ?_
          rw [show r = nI (cN r) from hn1.1]
          have hPc : va_P K.1 vwCl (mw K h a (hput M 8 (0 : Int32))) H := hP
          refine xr_V (As := [.int (nI u), .int (nI (cN r))]) (rest := []) ⟨hx, hb, hml, hown, hts⟩ (c_X6_timesOf l K h a (hput M 8 (0 : Int32)) (nI u) (cN r) (by omega) hun) (cwV 2 hts gX6_promote_X6_timesOf rfl rfl rfl (by decide +kernel) ⟨Nat.le_of_ble_eq_true rfl, Nat.le_of_ble_eq_true rfl⟩) hK hPc 0 6 rfl rfl rfl rfl hl.1 rfl (Nat.le_of_ble_eq_true rfl) (Nat.le_of_ble_eq_true rfl) (Nat.le_of_ble_eq_true rfl) dX6_promote_48 ?_
          refine lv_aload_n hx hb dX6_promote_51 rfl (lv_at hl 0 rfl) ?_
          refine lv_aload_n hx hb dX6_promote_52 rfl (lv_at hl 0 rfl) ?_
          refine va_get (ci := 6) (v := .ref (a 0)) (C := RX6) (T := TX6) (N := 14) hx hb hts hi6 hown hK hP 0 rfl rfl 0 (by decide) lk7 (fun _ h9 => h9) rfl dX6_promote_53 ?_
          refine lv_bipush (v := (18 : Int32)) hx hb dX6_promote_56 (by decide) ?_
          refine lv_iload_n hx hb dX6_promote_58 rfl (lv_at hl 1 rfl) ?_
          refine lv_iadd hx hb dX6_promote_59 ?_
          refine xi_ld hx hb hK hP 1 (f := M 0) rfl (18 + (cN r)) (nn_add rfl hn1.1) (by omega) (by decide) dX6_promote_60 ?_
          refine lv_iload_n hx hb dX6_promote_61 rfl (lv_at hl 1 rfl) ?_
          refine W_stk (congrArg (fun z9 => ([.int z9, .int (M 0 (18 + (cN r))), .ref h, .int (tmM (M 0) (nI u) (cN r))] : List Value)) (hn1.1 : r = nI (cN r))) ?_
          have hPc : va_P K.1 vwCl (mw K h a (hput M 8 (0 : Int32))) H := hP
          refine xr_V (As := [.int (M 0 (18 + (cN r))), .int (nI (cN r))]) (rest := [.int (tmM (M 0) (nI u) (cN r))]) ⟨hx, hb, hml, hown, hts⟩ (c_X6_timesOf l K h a (hput M 8 (0 : Int32)) (M 0 (18 + (cN r))) (cN r) (by omega) hfr) (cwV 2 hts gX6_promote_X6_timesOf rfl rfl rfl (by decide +kernel) ⟨Nat.le_of_ble_eq_true rfl, Nat.le_of_ble_eq_true rfl⟩) hK hPc 0 6 rfl rfl rfl rfl hl.1 rfl (Nat.le_of_ble_eq_true rfl) (Nat.le_of_ble_eq_true rfl) (Nat.le_of_ble_eq_true rfl) dX6_promote_62 ?_
          refine lv_icmp_le (tgt := 72) hx hb dX6_promote_65 (by decide) (fun c_65 => ?_) (fun c_65 => ?_)
          · skip
            have c_65n := Int32.not_lt.mpr c_65
            refine lv_iconst (v := (0 : Int32)) hx hb dX6_promote_72 (by decide) ?_
            refine lv_istore (lv' := [(4, .int (0 : Int32)), (0, .ref h), (1, .int r), (2, .int b), (3, .int (nI u))]) hx hb dX6_promote_73 hl (by decide) rfl (fun ls hl => ?_)
            refine lv_iload hx hb dX6_promote_75 (lv_at hl 0 rfl) ?_
            refine lv_if_eq (tgt := 99) hx hb dX6_promote_77 (by decide) (fun c_77 => ?_) (fun c_77 => ?_)
            rotate_left
            · exact absurd (by decide) c_77
            refine lv_iload_n hx hb dX6_promote_99 rfl (lv_at hl 3 rfl) ?_
            refine lv_istore_n (lv' := [(2, .int b), (4, .int (0 : Int32)), (0, .ref h), (1, .int r), (3, .int (nI u))]) hx hb dX6_promote_100 rfl hl (by decide) rfl (fun ls hl => ?_)
            refine lv_iinc (v := (nI u) + (-1)) (lv' := [(3, .int ((nI u) + (-1))), (2, .int b), (4, .int (0 : Int32)), (0, .ref h), (1, .int r)]) hx hb dX6_promote_101 hl (k := 4) rfl rfl (by decide) rfl (fun ls hl => ?_)
            refine lv_goto (tgt := 41) hx hb dX6_promote_104 (by decide) ?_
            exact ih41 ((nI u) + (-1)) u (prS (M 0) (cN r) u b) _ _ _ (by omega) (by exact nn_m1 _) (by omega) (by exact isPn_s (by omega) hbp) (by exact hpr) hP hD hS (lv_cons (lv_at hl 3 rfl) (lv_cons (lv_at hl 4 rfl) (lv_cons (lv_is (lv_at hl 1 rfl) (show b = (prS (M 0) (cN r) u b) by (unfold prS; first | exact (if_pos ⟨c_65n, c_92n⟩).symm | exact (if_pos ⟨c_65n, Int32.not_lt.mp c_92n⟩).symm | exact (if_neg (fun z => c_65n z.1)).symm | exact (if_neg (fun z => Int32.not_lt.mpr z.2 c_92)).symm | exact (if_neg (fun z => Int32.not_le.mpr c_92 z.2)).symm))) (lv_cons (lv_at hl 0 rfl) (lv_nil hl)))))
          · skip
            have c_65n := Int32.not_le.mp c_65
            refine lv_iconst (v := (1 : Int32)) hx hb dX6_promote_68 (by decide) ?_
            refine lv_goto (tgt := 73) hx hb dX6_promote_69 (by decide) ?_
            refine lv_istore (lv' := [(4, .int (1 : Int32)), (0, .ref h), (1, .int r), (2, .int b), (3, .int (nI u))]) hx hb dX6_promote_73 hl (by decide) rfl (fun ls hl => ?_)
            refine lv_iload hx hb dX6_promote_75 (lv_at hl 0 rfl) ?_
            refine lv_if_eq (tgt := 99) hx hb dX6_promote_77 (by decide) (fun c_77 => ?_) (fun c_77 => ?_)
            · exact absurd c_77 (by decide)
            refine lv_aload_n hx hb dX6_promote_80 rfl (lv_at hl 1 rfl) ?_
            refine lv_iload_n hx hb dX6_promote_81 rfl (lv_at hl 4 rfl) ?_
            refine lv_iload_n hx hb dX6_promote_82 rfl (lv_at hl 2 rfl) ?_
            rw [show r = nI (cN r) from hn1.1]
            have hPc : va_P K.1 vwCl (mw K h a (hput M 8 (0 : Int32))) H := hP
            refine xr_V (As := [.int (nI u), .int (nI (cN r))]) (rest := []) ⟨hx, hb, hml, hown, hts⟩ (c_X6_timesOf l K h a (hput M 8 (0 : Int32)) (nI u) (cN r) (by omega) hun) (cwV 2 hts gX6_promote_X6_timesOf rfl rfl rfl (by decide +kernel) ⟨Nat.le_of_ble_eq_true rfl, Nat.le_of_ble_eq_true rfl⟩) hK hPc 0 6 rfl rfl rfl rfl hl.1 rfl (Nat.le_of_ble_eq_true rfl) (Nat.le_of_ble_eq_true rfl) (Nat.le_of_ble_eq_true rfl) dX6_promote_83 ?_
            refine lv_aload_n hx hb dX6_promote_86 rfl (lv_at hl 1 rfl) ?_
            refine lv_iload_n hx hb dX6_promote_87 rfl (lv_at hl 3 rfl) ?_
            refine lv_iload_n hx hb dX6_promote_88 rfl (lv_at hl 2 rfl) ?_
            refine W_stk (congrArg (fun z9 => ([.int z9, .int b, .ref h, .int (tmM (M 0) (nI u) (cN r))] : List Value)) (hn1.1 : r = nI (cN r))) ?_
            have hPc : va_P K.1 vwCl (mw K h a (hput M 8 (0 : Int32))) H := hP
            refine xr_V (As := [.int b, .int (nI (cN r))]) (rest := [.int (tmM (M 0) (nI u) (cN r))]) ⟨hx, hb, hml, hown, hts⟩ (c_X6_timesOf l K h a (hput M 8 (0 : Int32)) b (cN r) (by omega) hbp) (cwV 2 hts gX6_promote_X6_timesOf rfl rfl rfl (by decide +kernel) ⟨Nat.le_of_ble_eq_true rfl, Nat.le_of_ble_eq_true rfl⟩) hK hPc 0 6 rfl rfl rfl rfl hl.1 rfl (Nat.le_of_ble_eq_true rfl) (Nat.le_of_ble_eq_true rfl) (Nat.le_of_ble_eq_true rfl) dX6_promote_89 ?_
            refine lv_icmp_lt (tgt := 99) hx hb dX6_promote_92 (by decide) (fun c_92 => ?_) (fun c_92 => ?_)
            · skip
              have c_92n := Int32.not_le.mpr c_92
              refine lv_iload_n hx hb dX6_promote_99 rfl (lv_at hl 3 rfl) ?_
              refine lv_istore_n (lv' := [(2, .int b), (4, .int (1 : Int32)), (0, .ref h), (1, .int r), (3, .int (nI u))]) hx hb dX6_promote_100 rfl hl (by decide) rfl (fun ls hl => ?_)
              refine lv_iinc (v := (nI u) + (-1)) (lv' := [(3, .int ((nI u) + (-1))), (2, .int b), (4, .int (1 : Int32)), (0, .ref h), (1, .int r)]) hx hb dX6_promote_101 hl (k := 4) rfl rfl (by decide) rfl (fun ls hl => ?_)
              refine lv_goto (tgt := 41) hx hb dX6_promote_104 (by decide) ?_
              exact ih41 ((nI u) + (-1)) u (prS (M 0) (cN r) u b) _ _ _ (by omega) (by exact nn_m1 _) (by omega) (by exact isPn_s (by omega) hbp) (by exact hpr) hP hD hS (lv_cons (lv_at hl 3 rfl) (lv_cons (lv_at hl 4 rfl) (lv_cons (lv_is (lv_at hl 1 rfl) (show b = (prS (M 0) (cN r) u b) by (unfold prS; first | exact (if_pos ⟨c_65n, c_92n⟩).symm | exact (if_pos ⟨c_65n, Int32.not_lt.mp c_92n⟩).symm | exact (if_neg (fun z => c_65n z.1)).symm | exact (if_neg (fun z => Int32.not_lt.mpr z.2 c_92)).symm | exact (if_neg (fun z => Int32.not_le.mpr c_92 z.2)).symm))) (lv_cons (lv_at hl 0 rfl) (lv_nil hl)))))
            · skip
              have c_92n := Int32.not_lt.mp c_92
              refine lv_iload_n hx hb dX6_promote_95 rfl (lv_at hl 4 rfl) ?_
              refine lv_goto (tgt := 100) hx hb dX6_promote_96 (by decide) ?_
              refine lv_istore_n (lv' := [(2, .int (nI u)), (4, .int (1 : Int32)), (0, .ref h), (1, .int r), (3, .int (nI u))]) hx hb dX6_promote_100 rfl hl (by decide) rfl (fun ls hl => ?_)
              refine lv_iinc (v := (nI u) + (-1)) (lv' := [(3, .int ((nI u) + (-1))), (2, .int (nI u)), (4, .int (1 : Int32)), (0, .ref h), (1, .int r)]) hx hb dX6_promote_101 hl (k := 4) rfl rfl (by decide) rfl (fun ls hl => ?_)
              refine lv_goto (tgt := 41) hx hb dX6_promote_104 (by decide) ?_
              exact ih41 ((nI u) + (-1)) u (prS (M 0) (cN r) u b) _ _ _ (by omega) (by exact nn_m1 _) (by omega) (by exact isPn_s (by omega) hbp) (by exact hpr) hP hD hS (lv_cons (lv_at hl 3 rfl) (lv_cons (lv_at hl 4 rfl) (lv_cons (lv_is (lv_at hl 1 rfl) (show nI u = (prS (M 0) (cN r) u b) by (unfold prS; first | exact (if_pos ⟨c_65n, c_92n⟩).symm | exact (if_pos ⟨c_65n, Int32.not_lt.mp c_92n⟩).symm | exact (if_neg (fun z => c_65n z.1)).symm | exact (if_neg (fun z => Int32.not_lt.mpr z.2 c_92)).symm | exact (if_neg (fun z => Int32.not_le.mpr c_92 z.2)).symm))) (lv_cons (lv_at hl 0 rfl) (lv_nil hl)))))
    exact lp41 _ ((M 0 4) - (1 : Int32)) P (M 0 (18 + (cN r))) _ _ _ (Nat.lt_succ_self _) (by (rw [Int32.sub_add_cancel]; exact hP0)) (by exact Nat.le_refl _) (by exact hfr) (by rfl) hP hD hS (lv_cons (lv_at hl 2 rfl) (lv_cons (lv_at hl 3 rfl) (lv_cons (lv_at hl 1 rfl) (lv_cons (lv_at hl 0 rfl) (lv_nil hl)))))
  · skip
    refine lv_aload_n hx hb dX6_promote_16 rfl (lv_at hl 0 rfl) ?_
    refine lv_iconst (v := (1 : Int32)) hx hb dX6_promote_17 (by decide) ?_
    refine xw_Vi (As := [.int (1 : Int32)]) (rest := []) (wc := mw K h a (hput M 8 (0 : Int32))) (wr := (List.filterMap (fun i => (mw K h a (hput M 8 (0 : Int32)) : va_W)[i]?) ([] : List Nat))) ⟨hx, hb, hml, hown, hts⟩ (c_X6_fails l K h a (hput M 8 (0 : Int32)) (1 : Int32) H.size) (cwV 1 hts gX6_promote_X6_fails rfl rfl rfl (by decide +kernel) ⟨Nat.le_of_ble_eq_true rfl, Nat.le_of_ble_eq_true rfl⟩) hK hP hD hS hA [0, 1, 2, 3, 4, 5, 6, 7, 8, 9] [] [0, 1, 2, 3, 4, 5, 6, 7, 8, 9] rfl rfl rfl (fun _u => mw K h a (hput M 8 (1 : Int32))) (fun _ => rfl) 0 6 rfl rfl rfl rfl hl.1 rfl (Nat.le_of_ble_eq_true rfl) (Nat.le_of_ble_eq_true rfl) (Nat.le_of_ble_eq_true rfl) dX6_promote_18 (fun r18 _ H locs hq18 hP hD hS => ?_)
    have hP : va_P K.1 vwCl (mw K h a (hput M 8 (1 : Int32))) H := hP
    have hD : va_D A (mw K h a (hput M 8 (1 : Int32))) := hD
    subst hq18
    have hP : va_P K.1 vwCl (mw K h a (hput (hrow M 0 (M 0)) 8 (1 : Int32))) H := hP
    have hD : va_D A (mw K h a (hput (hrow M 0 (M 0)) 8 (1 : Int32))) := hD
    have eR10 : (M 0) = if kPromM (M 0) P r = 0 then upd (M 0) (18 + cN r) (prM (M 0) (cN r) P (M 0 (18 + cN r))) else M 0 := by first | exact (if_neg (show ¬ kPromM (M 0) P r = 0 from (by first | (simp [kPromM, c_13]; done) | (unfold kPromM; rw [if_neg (fun z => z c_13), ← hbe, if_pos c_117]; decide)))).symm | (rw [if_pos (show kPromM (M 0) P r = 0 from (by unfold kPromM; rw [if_neg (fun z => z c_13), ← hbe]; exact if_neg c_117))]; first | done | rw [hbe])
    have hP : va_P K.1 vwCl (mw K h a (hput (hrow M 0 (if kPromM (M 0) P r = 0 then upd (M 0) (18 + cN r) (prM (M 0) (cN r) P (M 0 (18 + cN r))) else M 0)) 8 (1 : Int32))) H := by rw [← eR10]; exact hP
    have hD : va_D A (mw K h a (hput (hrow M 0 (if kPromM (M 0) P r = 0 then upd (M 0) (18 + cN r) (prM (M 0) (cN r) P (M 0 (18 + cN r))) else M 0)) 8 (1 : Int32))) := by rw [← eR10]; exact hD
    have hP : va_P K.1 vwCl (mw K h a (hput (hrow (hrow M 0 (if kPromM (M 0) P r = 0 then upd (M 0) (18 + cN r) (prM (M 0) (cN r) P (M 0 (18 + cN r))) else M 0)) 2 (M 2)) 8 (1 : Int32))) H := hP
    have hD : va_D A (mw K h a (hput (hrow (hrow M 0 (if kPromM (M 0) P r = 0 then upd (M 0) (18 + cN r) (prM (M 0) (cN r) P (M 0 (18 + cN r))) else M 0)) 2 (M 2)) 8 (1 : Int32))) := hD
    have eR11 : (M 2) = if kPromM (M 0) P r = 0 then remP (M 0) (M 2) c else M 2 := by first | exact (if_neg (show ¬ kPromM (M 0) P r = 0 from (by first | (simp [kPromM, c_13]; done) | (unfold kPromM; rw [if_neg (fun z => z c_13), ← hbe, if_pos c_117]; decide)))).symm | (rw [if_pos (show kPromM (M 0) P r = 0 from (by unfold kPromM; rw [if_neg (fun z => z c_13), ← hbe]; exact if_neg c_117))]; first | done | rw [hbe])
    have hP : va_P K.1 vwCl (mw K h a (hput (hrow (hrow M 0 (if kPromM (M 0) P r = 0 then upd (M 0) (18 + cN r) (prM (M 0) (cN r) P (M 0 (18 + cN r))) else M 0)) 2 (if kPromM (M 0) P r = 0 then remP (M 0) (M 2) c else M 2)) 8 (1 : Int32))) H := by rw [← eR11]; exact hP
    have hD : va_D A (mw K h a (hput (hrow (hrow M 0 (if kPromM (M 0) P r = 0 then upd (M 0) (18 + cN r) (prM (M 0) (cN r) P (M 0 (18 + cN r))) else M 0)) 2 (if kPromM (M 0) P r = 0 then remP (M 0) (M 2) c else M 2)) 8 (1 : Int32))) := by rw [← eR11]; exact hD
    have hP : va_P K.1 vwCl (mw K h a (hput (hput (hrow (hrow M 0 (if kPromM (M 0) P r = 0 then upd (M 0) (18 + cN r) (prM (M 0) (cN r) P (M 0 (18 + cN r))) else M 0)) 2 (if kPromM (M 0) P r = 0 then remP (M 0) (M 2) c else M 2)) 3 ((M 3) 0)) 8 (1 : Int32))) H := hP
    have hD : va_D A (mw K h a (hput (hput (hrow (hrow M 0 (if kPromM (M 0) P r = 0 then upd (M 0) (18 + cN r) (prM (M 0) (cN r) P (M 0 (18 + cN r))) else M 0)) 2 (if kPromM (M 0) P r = 0 then remP (M 0) (M 2) c else M 2)) 3 ((M 3) 0)) 8 (1 : Int32))) := hD
    have eR12 : ((M 3) 0) = if kPromM (M 0) P r = 0 then nI (remC c) else M 3 0 := by first | exact (if_neg (show ¬ kPromM (M 0) P r = 0 from (by first | (simp [kPromM, c_13]; done) | (unfold kPromM; rw [if_neg (fun z => z c_13), ← hbe, if_pos c_117]; decide)))).symm | (rw [if_pos (show kPromM (M 0) P r = 0 from (by unfold kPromM; rw [if_neg (fun z => z c_13), ← hbe]; exact if_neg c_117))]; first | done | rw [hbe])
    rw [eR12] at hP hD
    have eR13 : (1 : Int32) = nI (kPromM (M 0) P r) := by exact (congrArg nI (show kPromM (M 0) P r = _ from (by first | (simp [kPromM, c_13]; done) | (unfold kPromM; rw [if_neg (fun z => z c_13), ← hbe]; first | exact if_pos c_117 | exact if_neg c_117)))).symm
    have hP : va_P K.1 vwCl (mw K h a (hput (hput (hrow (hrow M 0 (if kPromM (M 0) P r = 0 then upd (M 0) (18 + cN r) (prM (M 0) (cN r) P (M 0 (18 + cN r))) else M 0)) 2 (if kPromM (M 0) P r = 0 then remP (M 0) (M 2) c else M 2)) 3 (if kPromM (M 0) P r = 0 then nI (remC c) else M 3 0)) 8 (nI (kPromM (M 0) P r)))) H := by rw [← eR13]; exact hP
    have hD : va_D A (mw K h a (hput (hput (hrow (hrow M 0 (if kPromM (M 0) P r = 0 then upd (M 0) (18 + cN r) (prM (M 0) (cN r) P (M 0 (18 + cN r))) else M 0)) 2 (if kPromM (M 0) P r = 0 then remP (M 0) (M 2) c else M 2)) 3 (if kPromM (M 0) P r = 0 then nI (remC c) else M 3 0)) 8 (nI (kPromM (M 0) P r)))) := by rw [← eR13]; exact hD
    exact hend _ _ _ _ _ _ _ () hP hD hS (Nat.le_of_ble_eq_true rfl) (Nat.le_of_ble_eq_true rfl) (by first | exact (fun z => absurd z (show ¬ kPromM (M 0) P r = 0 from (by first | (simp [kPromM, c_13]; done) | (unfold kPromM; rw [if_neg (fun z => z c_13), ← hbe, if_pos c_117]; decide)))) | exact fun _ => hbe) dX6_promote_21

abbrev rm_X6_isFor : Room := { frames := 1, cells := 0, slots := 0, locals := 22 }
set_option maxHeartbeats 4000000 in
set_option maxRecDepth 100000 in
theorem c_X6_isFor (l : Launch) (K : KX) (w : Int32) (v : Int32) : Met l yX6_isFor wsX6_isFor rm_X6_isFor (va_Pc [.int w, .int v] (xRead K ([]))) (vp_Si (fun r9 => r9 = bI (isForB w v = true))) 0 0 (fun _ => False) := by
  refine xr_startz (cc := cX6_isFor) (maxL := 2) (ret := .boolean) (by decide) rfl (Nat.le_of_ble_eq_true rfl) ?_
  intro p9 e9 s9 m9 below9 meth9 c9 H ls av9 Q9 hx hb hlocks hml hts hown hK hP hend hl
  have hown : s9.vm.findClass RX6 = some m9.cls := hown
  have hl : lv_has ls 2 [(0, .int w), (1, .int v)] := hl
  refine lv_iload_n hx hb dX6_isFor_0 rfl (lv_at hl 0 rfl) ?_
  refine lv_if_ne (tgt := 14) hx hb dX6_isFor_1 (by decide) (fun c_1 => ?_) (fun c_1 => ?_)
  · skip
    refine lv_iload_n hx hb dX6_isFor_14 rfl (lv_at hl 0 rfl) ?_
    refine lv_iconst (v := (2 : Int32)) hx hb dX6_isFor_15 (by decide) ?_
    refine lv_icmp_ne (tgt := 29) hx hb dX6_isFor_16 (by decide) (fun c_16 => ?_) (fun c_16 => ?_)
    · skip
      refine lv_iload_n hx hb dX6_isFor_29 rfl (lv_at hl 0 rfl) ?_
      refine lv_iconst (v := (3 : Int32)) hx hb dX6_isFor_30 (by decide) ?_
      refine lv_icmp_ne (tgt := 44) hx hb dX6_isFor_31 (by decide) (fun c_31 => ?_) (fun c_31 => ?_)
      · skip
        refine lv_iload_n hx hb dX6_isFor_44 rfl (lv_at hl 1 rfl) ?_
        refine lv_iconst (v := (0 : Int32)) hx hb dX6_isFor_45 (by decide) ?_
        refine lv_bipush (v := (99 : Int32)) hx hb dX6_isFor_46 (by decide) ?_
        have hPc : va_P K.1 vwCl ([]) H := hP
        refine xr_S (As := [.int v, .int (0 : Int32), .int (99 : Int32)]) (rest := []) ⟨hx, hb, hml, hown, hts⟩ (c_X6_in l K v (0 : Int32) (99 : Int32)) (va_cwS 3 hts gX6_isFor_X6_in rfl rfl rfl (by decide +kernel) ⟨Nat.le_of_ble_eq_true rfl, Nat.le_of_ble_eq_true rfl⟩) hK hPc rfl hl.1 rfl (Nat.le_of_ble_eq_true rfl) (Nat.le_of_ble_eq_true rfl) (Nat.le_of_ble_eq_true rfl) dX6_isFor_48 ?_
        exact hend _ _ _ (bI_narrow) (by (unfold isForB; simp [c_1, c_16, c_31, inR]; done)) dX6_isFor_51
      · skip
        refine lv_iload_n hx hb dX6_isFor_34 rfl (lv_at hl 1 rfl) ?_
        refine lv_iconst (v := (0 : Int32)) hx hb dX6_isFor_35 (by decide) ?_
        refine lv_bipush (v := (50 : Int32)) hx hb dX6_isFor_36 (by decide) ?_
        have hPc : va_P K.1 vwCl ([]) H := hP
        refine xr_S (As := [.int v, .int (0 : Int32), .int (50 : Int32)]) (rest := []) ⟨hx, hb, hml, hown, hts⟩ (c_X6_in l K v (0 : Int32) (50 : Int32)) (va_cwS 3 hts gX6_isFor_X6_in rfl rfl rfl (by decide +kernel) ⟨Nat.le_of_ble_eq_true rfl, Nat.le_of_ble_eq_true rfl⟩) hK hPc rfl hl.1 rfl (Nat.le_of_ble_eq_true rfl) (Nat.le_of_ble_eq_true rfl) (Nat.le_of_ble_eq_true rfl) dX6_isFor_38 ?_
        refine lv_goto (tgt := 51) hx hb dX6_isFor_41 (by decide) ?_
        exact hend _ _ _ (bI_narrow) (by (unfold isForB; simp [c_1, c_16, c_31, inR]; done)) dX6_isFor_51
    · skip
      refine lv_iload_n hx hb dX6_isFor_19 rfl (lv_at hl 1 rfl) ?_
      refine lv_iconst (v := (0 : Int32)) hx hb dX6_isFor_20 (by decide) ?_
      refine lv_bipush (v := (20 : Int32)) hx hb dX6_isFor_21 (by decide) ?_
      have hPc : va_P K.1 vwCl ([]) H := hP
      refine xr_S (As := [.int v, .int (0 : Int32), .int (20 : Int32)]) (rest := []) ⟨hx, hb, hml, hown, hts⟩ (c_X6_in l K v (0 : Int32) (20 : Int32)) (va_cwS 3 hts gX6_isFor_X6_in rfl rfl rfl (by decide +kernel) ⟨Nat.le_of_ble_eq_true rfl, Nat.le_of_ble_eq_true rfl⟩) hK hPc rfl hl.1 rfl (Nat.le_of_ble_eq_true rfl) (Nat.le_of_ble_eq_true rfl) (Nat.le_of_ble_eq_true rfl) dX6_isFor_23 ?_
      refine lv_goto (tgt := 51) hx hb dX6_isFor_26 (by decide) ?_
      exact hend _ _ _ (bI_narrow) (by (unfold isForB; simp [c_1, c_16, inR]; done)) dX6_isFor_51
  · skip
    refine lv_iload_n hx hb dX6_isFor_4 rfl (lv_at hl 1 rfl) ?_
    refine lv_iconst (v := (1 : Int32)) hx hb dX6_isFor_5 (by decide) ?_
    refine lv_bipush (v := (9 : Int32)) hx hb dX6_isFor_6 (by decide) ?_
    have hPc : va_P K.1 vwCl ([]) H := hP
    refine xr_S (As := [.int v, .int (1 : Int32), .int (9 : Int32)]) (rest := []) ⟨hx, hb, hml, hown, hts⟩ (c_X6_in l K v (1 : Int32) (9 : Int32)) (va_cwS 3 hts gX6_isFor_X6_in rfl rfl rfl (by decide +kernel) ⟨Nat.le_of_ble_eq_true rfl, Nat.le_of_ble_eq_true rfl⟩) hK hPc rfl hl.1 rfl (Nat.le_of_ble_eq_true rfl) (Nat.le_of_ble_eq_true rfl) (Nat.le_of_ble_eq_true rfl) dX6_isFor_8 ?_
    refine lv_goto (tgt := 51) hx hb dX6_isFor_11 (by decide) ?_
    exact hend _ _ _ (bI_narrow) (by (unfold isForB; simp [c_1, inR]; done)) dX6_isFor_51

abbrev rm_X6_set : Room := { frames := 2, cells := 0, slots := 0, locals := 45 }
set_option maxHeartbeats 4000000 in
set_option maxRecDepth 100000 in
theorem c_X6_set (l : Launch) (K : KX) (h : Nat) (a : Nat → Nat) (M : HV) (w : Int32) (v : Int32) (c : Nat) (hc0 : M 3 0 = nI c) (hc0b : c ≤ 14) (sz : Nat) : Met l yX6_set wsX6_set rm_X6_set (va_Pc [.ref h, .int w, .int v] (xPre K (mw K h a M) sz)) (va_Qi (fun (r9 : Int32) (_u : Unit) => kSetM w v (isForB w v) = 0 → r9 = M 0 (5 + cN w)) (fun _u t => xPost K (va_A (mw K h a M) sz) (mw K h a (hput (hput (hrow (hrow M 0 (if kSetM w v (isForB w v) = 0 then upd (M 0) (5 + cN w) v else M 0)) 2 (if kSetM w v (isForB w v) = 0 then remP (M 0) (M 2) c else M 2)) 3 (if kSetM w v (isForB w v) = 0 then nI (remC c) else M 3 0)) 8 (nI (kSetM w v (isForB w v))))) t) (va_A (mw K h a M) sz)) 0 0 (va_A (mw K h a M) sz) := by
  refine xw_starti (cc := cX6_set) (maxL := 4) (by decide) rfl (Nat.le_of_ble_eq_true rfl) ?_
  intro p9 e9 s9 m9 below9 meth9 c9 H locs ls A av9 Q9 hx hb hlocks hml hname hts hown hK hP hD hS hA hsz hend hl
  have hown : s9.vm.findClass RX6 = some m9.cls := hown
  have hl : lv_has ls 4 [(0, .ref h), (1, .int w), (2, .int v)] := hl
  have hi6 : ∀ w ∈ u_ws RX6 TX6 14, w ∈ wsX6_set := by decide +kernel
  have lk42 := hts (.fieldLink RX6 42 "StandInsModel" "thrown" "I") (by decide +kernel)
  have lk7 := hts (.fieldLink RX6 7 "StandInsModel" "now" "[I") (by decide +kernel)
  refine lv_aload_n hx hb dX6_set_0 rfl (lv_at hl 0 rfl) ?_
  refine lv_iconst (v := (0 : Int32)) hx hb dX6_set_1 (by decide) ?_
  refine va_put (ci := 6) (v := .int (0 : Int32)) (ty := .int) (C := RX6) (T := TX6) (N := 14) hx hb hts hi6 tyX6 tyX6_ok nmX6 hown hK hP hD hS 0 rfl rfl 8 (by decide) lk42 (fun _ h9 => h9) rfl (by decide +kernel) rfl rfl (Nat.le_of_ble_eq_true rfl) dX6_set_2 (fun H locs hP hD hS => ?_)
  have hP : va_P K.1 vwCl (mw K h a (hput M 8 (0 : Int32))) H := hP
  have hD : va_D A (mw K h a (hput M 8 (0 : Int32))) := hD
  refine lv_iload_n hx hb dX6_set_5 rfl (lv_at hl 1 rfl) ?_
  refine lv_iconst (v := (0 : Int32)) hx hb dX6_set_6 (by decide) ?_
  refine lv_iconst (v := (4 : Int32)) hx hb dX6_set_7 (by decide) ?_
  have hPc := P_sub (ws' := []) hP [] rfl
  refine xr_S (As := [.int w, .int (0 : Int32), .int (4 : Int32)]) (rest := []) ⟨hx, hb, hml, hown, hts⟩ (c_X6_in l K w (0 : Int32) (4 : Int32)) (va_cwS 3 hts gX6_set_X6_in rfl rfl rfl (by decide +kernel) ⟨Nat.le_of_ble_eq_true rfl, Nat.le_of_ble_eq_true rfl⟩) hK hPc rfl hl.1 rfl (Nat.le_of_ble_eq_true rfl) (Nat.le_of_ble_eq_true rfl) (Nat.le_of_ble_eq_true rfl) dX6_set_8 ?_
  refine xb_if_eq (tgt := 22) hx hb dX6_set_11 (by decide) (fun c_11 => ?_) (fun c_11 => ?_)
  · skip
    refine lv_aload_n hx hb dX6_set_22 rfl (lv_at hl 0 rfl) ?_
    refine lv_iconst (v := (1 : Int32)) hx hb dX6_set_23 (by decide) ?_
    refine xw_Vi (As := [.int (1 : Int32)]) (rest := []) (wc := mw K h a (hput M 8 (0 : Int32))) (wr := (List.filterMap (fun i => (mw K h a (hput M 8 (0 : Int32)) : va_W)[i]?) ([] : List Nat))) ⟨hx, hb, hml, hown, hts⟩ (c_X6_fails l K h a (hput M 8 (0 : Int32)) (1 : Int32) H.size) (cwV 1 hts gX6_set_X6_fails rfl rfl rfl (by decide +kernel) ⟨Nat.le_of_ble_eq_true rfl, Nat.le_of_ble_eq_true rfl⟩) hK hP hD hS hA [0, 1, 2, 3, 4, 5, 6, 7, 8, 9] [] [0, 1, 2, 3, 4, 5, 6, 7, 8, 9] rfl rfl rfl (fun _u => mw K h a (hput M 8 (1 : Int32))) (fun _ => rfl) 0 6 rfl rfl rfl rfl hl.1 rfl (Nat.le_of_ble_eq_true rfl) (Nat.le_of_ble_eq_true rfl) (Nat.le_of_ble_eq_true rfl) dX6_set_24 (fun r24 _ H locs hq24 hP hD hS => ?_)
    have hP : va_P K.1 vwCl (mw K h a (hput M 8 (1 : Int32))) H := hP
    have hD : va_D A (mw K h a (hput M 8 (1 : Int32))) := hD
    subst hq24
    have hP : va_P K.1 vwCl (mw K h a (hput (hrow M 0 (M 0)) 8 (1 : Int32))) H := hP
    have hD : va_D A (mw K h a (hput (hrow M 0 (M 0)) 8 (1 : Int32))) := hD
    have eR1 : (M 0) = if kSetM w v (isForB w v) = 0 then upd (M 0) (5 + cN w) v else M 0 := by first | exact (if_pos (show kSetM w v (isForB w v) = 0 from (by simp [kSetM, c_11]; done))).symm | exact (if_neg (show ¬ kSetM w v (isForB w v) = 0 from (by simp [kSetM, c_11]; done))).symm | rw [if_pos (show kSetM w v (isForB w v) = 0 from (by simp [kSetM, c_11]; done))] | rw [if_neg (show ¬ kSetM w v (isForB w v) = 0 from (by simp [kSetM, c_11]; done))]
    have hP : va_P K.1 vwCl (mw K h a (hput (hrow M 0 (if kSetM w v (isForB w v) = 0 then upd (M 0) (5 + cN w) v else M 0)) 8 (1 : Int32))) H := by rw [← eR1]; exact hP
    have hD : va_D A (mw K h a (hput (hrow M 0 (if kSetM w v (isForB w v) = 0 then upd (M 0) (5 + cN w) v else M 0)) 8 (1 : Int32))) := by rw [← eR1]; exact hD
    have hP : va_P K.1 vwCl (mw K h a (hput (hrow (hrow M 0 (if kSetM w v (isForB w v) = 0 then upd (M 0) (5 + cN w) v else M 0)) 2 (M 2)) 8 (1 : Int32))) H := hP
    have hD : va_D A (mw K h a (hput (hrow (hrow M 0 (if kSetM w v (isForB w v) = 0 then upd (M 0) (5 + cN w) v else M 0)) 2 (M 2)) 8 (1 : Int32))) := hD
    have eR2 : (M 2) = if kSetM w v (isForB w v) = 0 then remP (M 0) (M 2) c else M 2 := by first | exact (if_pos (show kSetM w v (isForB w v) = 0 from (by simp [kSetM, c_11]; done))).symm | exact (if_neg (show ¬ kSetM w v (isForB w v) = 0 from (by simp [kSetM, c_11]; done))).symm | rw [if_pos (show kSetM w v (isForB w v) = 0 from (by simp [kSetM, c_11]; done))] | rw [if_neg (show ¬ kSetM w v (isForB w v) = 0 from (by simp [kSetM, c_11]; done))]
    have hP : va_P K.1 vwCl (mw K h a (hput (hrow (hrow M 0 (if kSetM w v (isForB w v) = 0 then upd (M 0) (5 + cN w) v else M 0)) 2 (if kSetM w v (isForB w v) = 0 then remP (M 0) (M 2) c else M 2)) 8 (1 : Int32))) H := by rw [← eR2]; exact hP
    have hD : va_D A (mw K h a (hput (hrow (hrow M 0 (if kSetM w v (isForB w v) = 0 then upd (M 0) (5 + cN w) v else M 0)) 2 (if kSetM w v (isForB w v) = 0 then remP (M 0) (M 2) c else M 2)) 8 (1 : Int32))) := by rw [← eR2]; exact hD
    have hP : va_P K.1 vwCl (mw K h a (hput (hput (hrow (hrow M 0 (if kSetM w v (isForB w v) = 0 then upd (M 0) (5 + cN w) v else M 0)) 2 (if kSetM w v (isForB w v) = 0 then remP (M 0) (M 2) c else M 2)) 3 ((M 3) 0)) 8 (1 : Int32))) H := hP
    have hD : va_D A (mw K h a (hput (hput (hrow (hrow M 0 (if kSetM w v (isForB w v) = 0 then upd (M 0) (5 + cN w) v else M 0)) 2 (if kSetM w v (isForB w v) = 0 then remP (M 0) (M 2) c else M 2)) 3 ((M 3) 0)) 8 (1 : Int32))) := hD
    have eR3 : ((M 3) 0) = if kSetM w v (isForB w v) = 0 then nI (remC c) else M 3 0 := by first | exact (if_pos (show kSetM w v (isForB w v) = 0 from (by simp [kSetM, c_11]; done))).symm | exact (if_neg (show ¬ kSetM w v (isForB w v) = 0 from (by simp [kSetM, c_11]; done))).symm | rw [if_pos (show kSetM w v (isForB w v) = 0 from (by simp [kSetM, c_11]; done))] | rw [if_neg (show ¬ kSetM w v (isForB w v) = 0 from (by simp [kSetM, c_11]; done))]
    rw [eR3] at hP hD
    have eR4 : (1 : Int32) = nI (kSetM w v (isForB w v)) := by exact (congrArg nI (show kSetM w v (isForB w v) = _ from (by simp [kSetM, c_11]; done))).symm
    have hP : va_P K.1 vwCl (mw K h a (hput (hput (hrow (hrow M 0 (if kSetM w v (isForB w v) = 0 then upd (M 0) (5 + cN w) v else M 0)) 2 (if kSetM w v (isForB w v) = 0 then remP (M 0) (M 2) c else M 2)) 3 (if kSetM w v (isForB w v) = 0 then nI (remC c) else M 3 0)) 8 (nI (kSetM w v (isForB w v))))) H := by rw [← eR4]; exact hP
    have hD : va_D A (mw K h a (hput (hput (hrow (hrow M 0 (if kSetM w v (isForB w v) = 0 then upd (M 0) (5 + cN w) v else M 0)) 2 (if kSetM w v (isForB w v) = 0 then remP (M 0) (M 2) c else M 2)) 3 (if kSetM w v (isForB w v) = 0 then nI (remC c) else M 3 0)) 8 (nI (kSetM w v (isForB w v))))) := by rw [← eR4]; exact hD
    exact hend _ _ _ _ _ _ _ () hP hD hS (Nat.le_of_ble_eq_true rfl) (Nat.le_of_ble_eq_true rfl) (by first | (intro hk9; rfl; done) | (intro hk9; simp [kSetM, c_11] at hk9; done)) dX6_set_27
  · skip
    have hn5 := rng_cN (lo := 0) (hi := 4) c_11 (by decide)
    refine lv_iload_n hx hb dX6_set_14 rfl (lv_at hl 1 rfl) ?_
    refine lv_iload_n hx hb dX6_set_15 rfl (lv_at hl 2 rfl) ?_
    have hPc := P_sub (ws' := []) hP [] rfl
    refine xr_S (As := [.int w, .int v]) (rest := []) ⟨hx, hb, hml, hown, hts⟩ (c_X6_isFor l K w v) (va_cwS 2 hts gX6_set_X6_isFor rfl rfl rfl (by decide +kernel) ⟨Nat.le_of_ble_eq_true rfl, Nat.le_of_ble_eq_true rfl⟩) hK hPc rfl hl.1 rfl (Nat.le_of_ble_eq_true rfl) (Nat.le_of_ble_eq_true rfl) (Nat.le_of_ble_eq_true rfl) dX6_set_16 ?_
    refine xb_if_ne (tgt := 28) hx hb dX6_set_19 (by decide) (fun c_19 => ?_) (fun c_19 => ?_)
    · skip
      refine lv_aload_n hx hb dX6_set_28 rfl (lv_at hl 0 rfl) ?_
      refine xw_Vv (As := []) (rest := []) (wc := mw K h a (hput M 8 (0 : Int32))) (wr := (List.filterMap (fun i => (mw K h a (hput M 8 (0 : Int32)) : va_W)[i]?) ([] : List Nat))) ⟨hx, hb, hml, hown, hts⟩ (c_X6_remembers l K h a (hput M 8 (0 : Int32)) c hc0 (by omega) H.size) (cwV 0 hts gX6_set_X6_remembers rfl rfl rfl (by decide +kernel) ⟨Nat.le_of_ble_eq_true rfl, Nat.le_of_ble_eq_true rfl⟩) hK hP hD hS hA [0, 1, 2, 3, 4, 5, 6, 7, 8, 9] [] [0, 1, 2, 3, 4, 5, 6, 7, 8, 9] rfl rfl rfl (fun _u => mw K h a (hput (hput (hrow M 2 (remP (M 0) (M 2) c)) 3 (nI (remC c))) 8 (0 : Int32))) (fun _ => rfl) 0 6 rfl rfl rfl rfl hl.1 rfl (Nat.le_of_ble_eq_true rfl) (Nat.le_of_ble_eq_true rfl) (Nat.le_of_ble_eq_true rfl) dX6_set_29 (fun _ H locs hq29 hP hD hS => ?_)
      have hP : va_P K.1 vwCl (mw K h a (hput (hput (hrow M 2 (remP (M 0) (M 2) c)) 3 (nI (remC c))) 8 (0 : Int32))) H := hP
      have hD : va_D A (mw K h a (hput (hput (hrow M 2 (remP (M 0) (M 2) c)) 3 (nI (remC c))) 8 (0 : Int32))) := hD
      refine lv_aload_n hx hb dX6_set_32 rfl (lv_at hl 0 rfl) ?_
      refine va_get (ci := 6) (v := .ref (a 0)) (C := RX6) (T := TX6) (N := 14) hx hb hts hi6 hown hK hP 0 rfl rfl 0 (by decide) lk7 (fun _ h9 => h9) rfl dX6_set_33 ?_
      refine lv_iconst (v := (5 : Int32)) hx hb dX6_set_36 (by decide) ?_
      refine lv_iload_n hx hb dX6_set_37 rfl (lv_at hl 1 rfl) ?_
      refine lv_iadd hx hb dX6_set_38 ?_
      refine xi_ld hx hb hK hP 1 (f := M 0) rfl (5 + (cN w)) (nn_add rfl hn5.1) (by omega) (by decide) dX6_set_39 ?_
      refine lv_istore_n (lv' := [(3, .int (M 0 (5 + (cN w)))), (0, .ref h), (1, .int w), (2, .int v)]) hx hb dX6_set_40 rfl hl (by decide) rfl (fun ls hl => ?_)
      refine lv_aload_n hx hb dX6_set_41 rfl (lv_at hl 1 rfl) ?_
      refine va_get (ci := 6) (v := .ref (a 0)) (C := RX6) (T := TX6) (N := 14) hx hb hts hi6 hown hK hP 0 rfl rfl 0 (by decide) lk7 (fun _ h9 => h9) rfl dX6_set_42 ?_
      refine lv_iconst (v := (5 : Int32)) hx hb dX6_set_45 (by decide) ?_
      refine lv_iload_n hx hb dX6_set_46 rfl (lv_at hl 2 rfl) ?_
      refine lv_iadd hx hb dX6_set_47 ?_
      refine lv_iload_n hx hb dX6_set_48 rfl (lv_at hl 3 rfl) ?_
      refine xi_st hx hb hK hP hD hS 1 (f := M 0) rfl (5 + (cN w)) (nn_add rfl hn5.1) (by omega) (by decide) (mw K h a (hput (hput (hrow (hrow M 0 (upd (M 0) (5 + (cN w)) v)) 2 (remP (M 0) (M 2) c)) 3 (nI (remC c))) 8 (0 : Int32))) rfl dX6_set_49 (fun H locs hP hD hS => ?_)
      refine lv_iload_n hx hb dX6_set_50 rfl (lv_at hl 0 rfl) ?_
      have eR6 : (upd (M 0) (5 + (cN w)) v) = if kSetM w v (isForB w v) = 0 then upd (M 0) (5 + cN w) v else M 0 := by first | exact (if_pos (show kSetM w v (isForB w v) = 0 from (by simp [kSetM, c_11, c_19]; done))).symm | exact (if_neg (show ¬ kSetM w v (isForB w v) = 0 from (by simp [kSetM, c_11, c_19]; done))).symm | rw [if_pos (show kSetM w v (isForB w v) = 0 from (by simp [kSetM, c_11, c_19]; done))] | rw [if_neg (show ¬ kSetM w v (isForB w v) = 0 from (by simp [kSetM, c_11, c_19]; done))]
      rw [eR6] at hP hD
      have eR7 : (remP (M 0) (M 2) c) = if kSetM w v (isForB w v) = 0 then remP (M 0) (M 2) c else M 2 := by first | exact (if_pos (show kSetM w v (isForB w v) = 0 from (by simp [kSetM, c_11, c_19]; done))).symm | exact (if_neg (show ¬ kSetM w v (isForB w v) = 0 from (by simp [kSetM, c_11, c_19]; done))).symm | rw [if_pos (show kSetM w v (isForB w v) = 0 from (by simp [kSetM, c_11, c_19]; done))] | rw [if_neg (show ¬ kSetM w v (isForB w v) = 0 from (by simp [kSetM, c_11, c_19]; done))]
      have hP : va_P K.1 vwCl (mw K h a (hput (hput (hrow (hrow M 0 (if kSetM w v (isForB w v) = 0 then upd (M 0) (5 + cN w) v else M 0)) 2 (if kSetM w v (isForB w v) = 0 then remP (M 0) (M 2) c else M 2)) 3 (nI (remC c))) 8 (0 : Int32))) H := by rw [← eR7]; exact hP
      have hD : va_D A (mw K h a (hput (hput (hrow (hrow M 0 (if kSetM w v (isForB w v) = 0 then upd (M 0) (5 + cN w) v else M 0)) 2 (if kSetM w v (isForB w v) = 0 then remP (M 0) (M 2) c else M 2)) 3 (nI (remC c))) 8 (0 : Int32))) := by rw [← eR7]; exact hD
      have eR8 : (nI (remC c)) = if kSetM w v (isForB w v) = 0 then nI (remC c) else M 3 0 := by first | exact (if_pos (show kSetM w v (isForB w v) = 0 from (by simp [kSetM, c_11, c_19]; done))).symm | exact (if_neg (show ¬ kSetM w v (isForB w v) = 0 from (by simp [kSetM, c_11, c_19]; done))).symm | rw [if_pos (show kSetM w v (isForB w v) = 0 from (by simp [kSetM, c_11, c_19]; done))] | rw [if_neg (show ¬ kSetM w v (isForB w v) = 0 from (by simp [kSetM, c_11, c_19]; done))]
      have hP : va_P K.1 vwCl (mw K h a (hput (hput (hrow (hrow M 0 (if kSetM w v (isForB w v) = 0 then upd (M 0) (5 + cN w) v else M 0)) 2 (if kSetM w v (isForB w v) = 0 then remP (M 0) (M 2) c else M 2)) 3 (if kSetM w v (isForB w v) = 0 then nI (remC c) else M 3 0)) 8 (0 : Int32))) H := by rw [← eR8]; exact hP
      have hD : va_D A (mw K h a (hput (hput (hrow (hrow M 0 (if kSetM w v (isForB w v) = 0 then upd (M 0) (5 + cN w) v else M 0)) 2 (if kSetM w v (isForB w v) = 0 then remP (M 0) (M 2) c else M 2)) 3 (if kSetM w v (isForB w v) = 0 then nI (remC c) else M 3 0)) 8 (0 : Int32))) := by rw [← eR8]; exact hD
      have eR9 : (0 : Int32) = nI (kSetM w v (isForB w v)) := by exact (congrArg nI (show kSetM w v (isForB w v) = _ from (by simp [kSetM, c_11, c_19]; done))).symm
      have hP : va_P K.1 vwCl (mw K h a (hput (hput (hrow (hrow M 0 (if kSetM w v (isForB w v) = 0 then upd (M 0) (5 + cN w) v else M 0)) 2 (if kSetM w v (isForB w v) = 0 then remP (M 0) (M 2) c else M 2)) 3 (if kSetM w v (isForB w v) = 0 then nI (remC c) else M 3 0)) 8 (nI (kSetM w v (isForB w v))))) H := by rw [← eR9]; exact hP
      have hD : va_D A (mw K h a (hput (hput (hrow (hrow M 0 (if kSetM w v (isForB w v) = 0 then upd (M 0) (5 + cN w) v else M 0)) 2 (if kSetM w v (isForB w v) = 0 then remP (M 0) (M 2) c else M 2)) 3 (if kSetM w v (isForB w v) = 0 then nI (remC c) else M 3 0)) 8 (nI (kSetM w v (isForB w v))))) := by rw [← eR9]; exact hD
      exact hend _ _ _ _ _ _ _ () hP hD hS (Nat.le_of_ble_eq_true rfl) (Nat.le_of_ble_eq_true rfl) (by first | (intro hk9; rfl; done) | (intro hk9; simp [kSetM, c_11, c_19] at hk9; done)) dX6_set_51
    · skip
      refine lv_aload_n hx hb dX6_set_22 rfl (lv_at hl 0 rfl) ?_
      refine lv_iconst (v := (1 : Int32)) hx hb dX6_set_23 (by decide) ?_
      refine xw_Vi (As := [.int (1 : Int32)]) (rest := []) (wc := mw K h a (hput M 8 (0 : Int32))) (wr := (List.filterMap (fun i => (mw K h a (hput M 8 (0 : Int32)) : va_W)[i]?) ([] : List Nat))) ⟨hx, hb, hml, hown, hts⟩ (c_X6_fails l K h a (hput M 8 (0 : Int32)) (1 : Int32) H.size) (cwV 1 hts gX6_set_X6_fails rfl rfl rfl (by decide +kernel) ⟨Nat.le_of_ble_eq_true rfl, Nat.le_of_ble_eq_true rfl⟩) hK hP hD hS hA [0, 1, 2, 3, 4, 5, 6, 7, 8, 9] [] [0, 1, 2, 3, 4, 5, 6, 7, 8, 9] rfl rfl rfl (fun _u => mw K h a (hput M 8 (1 : Int32))) (fun _ => rfl) 0 6 rfl rfl rfl rfl hl.1 rfl (Nat.le_of_ble_eq_true rfl) (Nat.le_of_ble_eq_true rfl) (Nat.le_of_ble_eq_true rfl) dX6_set_24 (fun r24 _ H locs hq24 hP hD hS => ?_)
      have hP : va_P K.1 vwCl (mw K h a (hput M 8 (1 : Int32))) H := hP
      have hD : va_D A (mw K h a (hput M 8 (1 : Int32))) := hD
      subst hq24
      have hP : va_P K.1 vwCl (mw K h a (hput (hrow M 0 (M 0)) 8 (1 : Int32))) H := hP
      have hD : va_D A (mw K h a (hput (hrow M 0 (M 0)) 8 (1 : Int32))) := hD
      have eR10 : (M 0) = if kSetM w v (isForB w v) = 0 then upd (M 0) (5 + cN w) v else M 0 := by first | exact (if_pos (show kSetM w v (isForB w v) = 0 from (by simp [kSetM, c_11, c_19]; done))).symm | exact (if_neg (show ¬ kSetM w v (isForB w v) = 0 from (by simp [kSetM, c_11, c_19]; done))).symm | rw [if_pos (show kSetM w v (isForB w v) = 0 from (by simp [kSetM, c_11, c_19]; done))] | rw [if_neg (show ¬ kSetM w v (isForB w v) = 0 from (by simp [kSetM, c_11, c_19]; done))]
      have hP : va_P K.1 vwCl (mw K h a (hput (hrow M 0 (if kSetM w v (isForB w v) = 0 then upd (M 0) (5 + cN w) v else M 0)) 8 (1 : Int32))) H := by rw [← eR10]; exact hP
      have hD : va_D A (mw K h a (hput (hrow M 0 (if kSetM w v (isForB w v) = 0 then upd (M 0) (5 + cN w) v else M 0)) 8 (1 : Int32))) := by rw [← eR10]; exact hD
      have hP : va_P K.1 vwCl (mw K h a (hput (hrow (hrow M 0 (if kSetM w v (isForB w v) = 0 then upd (M 0) (5 + cN w) v else M 0)) 2 (M 2)) 8 (1 : Int32))) H := hP
      have hD : va_D A (mw K h a (hput (hrow (hrow M 0 (if kSetM w v (isForB w v) = 0 then upd (M 0) (5 + cN w) v else M 0)) 2 (M 2)) 8 (1 : Int32))) := hD
      have eR11 : (M 2) = if kSetM w v (isForB w v) = 0 then remP (M 0) (M 2) c else M 2 := by first | exact (if_pos (show kSetM w v (isForB w v) = 0 from (by simp [kSetM, c_11, c_19]; done))).symm | exact (if_neg (show ¬ kSetM w v (isForB w v) = 0 from (by simp [kSetM, c_11, c_19]; done))).symm | rw [if_pos (show kSetM w v (isForB w v) = 0 from (by simp [kSetM, c_11, c_19]; done))] | rw [if_neg (show ¬ kSetM w v (isForB w v) = 0 from (by simp [kSetM, c_11, c_19]; done))]
      have hP : va_P K.1 vwCl (mw K h a (hput (hrow (hrow M 0 (if kSetM w v (isForB w v) = 0 then upd (M 0) (5 + cN w) v else M 0)) 2 (if kSetM w v (isForB w v) = 0 then remP (M 0) (M 2) c else M 2)) 8 (1 : Int32))) H := by rw [← eR11]; exact hP
      have hD : va_D A (mw K h a (hput (hrow (hrow M 0 (if kSetM w v (isForB w v) = 0 then upd (M 0) (5 + cN w) v else M 0)) 2 (if kSetM w v (isForB w v) = 0 then remP (M 0) (M 2) c else M 2)) 8 (1 : Int32))) := by rw [← eR11]; exact hD
      have hP : va_P K.1 vwCl (mw K h a (hput (hput (hrow (hrow M 0 (if kSetM w v (isForB w v) = 0 then upd (M 0) (5 + cN w) v else M 0)) 2 (if kSetM w v (isForB w v) = 0 then remP (M 0) (M 2) c else M 2)) 3 ((M 3) 0)) 8 (1 : Int32))) H := hP
      have hD : va_D A (mw K h a (hput (hput (hrow (hrow M 0 (if kSetM w v (isForB w v) = 0 then upd (M 0) (5 + cN w) v else M 0)) 2 (if kSetM w v (isForB w v) = 0 then remP (M 0) (M 2) c else M 2)) 3 ((M 3) 0)) 8 (1 : Int32))) := hD
      have eR12 : ((M 3) 0) = if kSetM w v (isForB w v) = 0 then nI (remC c) else M 3 0 := by first | exact (if_pos (show kSetM w v (isForB w v) = 0 from (by simp [kSetM, c_11, c_19]; done))).symm | exact (if_neg (show ¬ kSetM w v (isForB w v) = 0 from (by simp [kSetM, c_11, c_19]; done))).symm | rw [if_pos (show kSetM w v (isForB w v) = 0 from (by simp [kSetM, c_11, c_19]; done))] | rw [if_neg (show ¬ kSetM w v (isForB w v) = 0 from (by simp [kSetM, c_11, c_19]; done))]
      rw [eR12] at hP hD
      have eR13 : (1 : Int32) = nI (kSetM w v (isForB w v)) := by exact (congrArg nI (show kSetM w v (isForB w v) = _ from (by simp [kSetM, c_11, c_19]; done))).symm
      have hP : va_P K.1 vwCl (mw K h a (hput (hput (hrow (hrow M 0 (if kSetM w v (isForB w v) = 0 then upd (M 0) (5 + cN w) v else M 0)) 2 (if kSetM w v (isForB w v) = 0 then remP (M 0) (M 2) c else M 2)) 3 (if kSetM w v (isForB w v) = 0 then nI (remC c) else M 3 0)) 8 (nI (kSetM w v (isForB w v))))) H := by rw [← eR13]; exact hP
      have hD : va_D A (mw K h a (hput (hput (hrow (hrow M 0 (if kSetM w v (isForB w v) = 0 then upd (M 0) (5 + cN w) v else M 0)) 2 (if kSetM w v (isForB w v) = 0 then remP (M 0) (M 2) c else M 2)) 3 (if kSetM w v (isForB w v) = 0 then nI (remC c) else M 3 0)) 8 (nI (kSetM w v (isForB w v))))) := by rw [← eR13]; exact hD
      exact hend _ _ _ _ _ _ _ () hP hD hS (Nat.le_of_ble_eq_true rfl) (Nat.le_of_ble_eq_true rfl) (by first | (intro hk9; rfl; done) | (intro hk9; simp [kSetM, c_11, c_19] at hk9; done)) dX6_set_27

abbrev rm_X6_undo : Room := { frames := 1, cells := 0, slots := 0, locals := 24 }
set_option maxHeartbeats 4000000 in
set_option maxRecDepth 100000 in
theorem c_X6_undo (l : Launch) (K : KX) (h : Nat) (a : Nat → Nat) (M : HV) (c : Nat) (hc0 : M 3 0 = nI c) (hc0b : c ≤ 14) (sz : Nat) : Met l yX6_undo wsX6_undo rm_X6_undo (va_Pc [.ref h] (xPre K (mw K h a M) sz)) (va_Qi (fun (r9 : Int32) (_u : Unit) => kUndo c = 0 → r9 = nI (c - 1)) (fun _u t => xPost K (va_A (mw K h a M) sz) (mw K h a (hput (hput (hrow M 0 (if kUndo c = 0 then layF (M 2) (M 0) (190 * (c - 1)) 0 190 else M 0)) 3 (if kUndo c = 0 then nI (c - 1) else M 3 0)) 8 (nI (kUndo c)))) t) (va_A (mw K h a M) sz)) 0 0 (va_A (mw K h a M) sz) := by
  refine xw_starti (cc := cX6_undo) (maxL := 1) (by decide) rfl (Nat.le_of_ble_eq_true rfl) ?_
  intro p9 e9 s9 m9 below9 meth9 c9 H locs ls A av9 Q9 hx hb hlocks hml hname hts hown hK hP hD hS hA hsz hend hl
  have hown : s9.vm.findClass RX6 = some m9.cls := hown
  have hl : lv_has ls 1 [(0, .ref h)] := hl
  have hi6 : ∀ w ∈ u_ws RX6 TX6 14, w ∈ wsX6_undo := by decide +kernel
  have lk42 := hts (.fieldLink RX6 42 "StandInsModel" "thrown" "I") (by decide +kernel)
  have lk50 := hts (.fieldLink RX6 50 "StandInsModel" "kept" "I") (by decide +kernel)
  have lk16 := hts (.fieldLink RX6 16 "StandInsModel" "past" "[I") (by decide +kernel)
  have lk7 := hts (.fieldLink RX6 7 "StandInsModel" "now" "[I") (by decide +kernel)
  refine lv_aload_n hx hb dX6_undo_0 rfl (lv_at hl 0 rfl) ?_
  refine lv_iconst (v := (0 : Int32)) hx hb dX6_undo_1 (by decide) ?_
  refine va_put (ci := 6) (v := .int (0 : Int32)) (ty := .int) (C := RX6) (T := TX6) (N := 14) hx hb hts hi6 tyX6 tyX6_ok nmX6 hown hK hP hD hS 0 rfl rfl 8 (by decide) lk42 (fun _ h9 => h9) rfl (by decide +kernel) rfl rfl (Nat.le_of_ble_eq_true rfl) dX6_undo_2 (fun H locs hP hD hS => ?_)
  have hP : va_P K.1 vwCl (mw K h a (hput M 8 (0 : Int32))) H := hP
  have hD : va_D A (mw K h a (hput M 8 (0 : Int32))) := hD
  refine lv_aload_n hx hb dX6_undo_5 rfl (lv_at hl 0 rfl) ?_
  refine va_get (ci := 6) (v := .int (M 3 0)) (C := RX6) (T := TX6) (N := 14) hx hb hts hi6 hown hK hP 0 rfl rfl 3 (by decide) lk50 (fun _ h9 => h9) rfl dX6_undo_6 ?_
  refine xn_if_ne (tgt := 18) hx hb c hc0 (by omega) dX6_undo_9 (by decide) (fun c_9 => ?_) (fun c_9 => ?_)
  · skip
    refine lv_aload_n hx hb dX6_undo_18 rfl (lv_at hl 0 rfl) ?_
    refine lv_dup hx hb dX6_undo_19 rfl ?_
    refine va_get (ci := 6) (v := .int (M 3 0)) (C := RX6) (T := TX6) (N := 14) hx hb hts hi6 hown hK hP 0 rfl rfl 3 (by decide) lk50 (fun _ h9 => h9) rfl dX6_undo_20 ?_
    refine lv_iconst (v := (1 : Int32)) hx hb dX6_undo_23 (by decide) ?_
    refine lv_isub hx hb dX6_undo_24 ?_
    rw [show (M 3 0) - (1 : Int32) = nI (c - 1) from (nn_sub hc0 rfl (by omega))]
    refine va_put (ci := 6) (v := .int (nI (c - 1))) (ty := .int) (C := RX6) (T := TX6) (N := 14) hx hb hts hi6 tyX6 tyX6_ok nmX6 hown hK hP hD hS 0 rfl rfl 3 (by decide) lk50 (fun _ h9 => h9) rfl (by decide +kernel) rfl rfl (Nat.le_of_ble_eq_true rfl) dX6_undo_25 (fun H locs hP hD hS => ?_)
    have hP : va_P K.1 vwCl (mw K h a (hput (hput M 3 (nI (c - 1))) 8 (0 : Int32))) H := hP
    have hD : va_D A (mw K h a (hput (hput M 3 (nI (c - 1))) 8 (0 : Int32))) := hD
    refine lv_aload_n hx hb dX6_undo_28 rfl (lv_at hl 0 rfl) ?_
    refine va_get (ci := 6) (v := .ref (a 2)) (C := RX6) (T := TX6) (N := 14) hx hb hts hi6 hown hK hP 0 rfl rfl 2 (by decide) lk16 (fun _ h9 => h9) rfl dX6_undo_29 ?_
    refine lv_sipush (v := (190 : Int32)) hx hb dX6_undo_32 (by decide) ?_
    refine lv_aload_n hx hb dX6_undo_35 rfl (lv_at hl 0 rfl) ?_
    refine va_get (ci := 6) (v := .int (nI (c - 1))) (C := RX6) (T := TX6) (N := 14) hx hb hts hi6 hown hK hP 0 rfl rfl 3 (by decide) lk50 (fun _ h9 => h9) rfl dX6_undo_36 ?_
    refine lv_imul hx hb dX6_undo_39 ?_
    refine lv_aload_n hx hb dX6_undo_40 rfl (lv_at hl 0 rfl) ?_
    refine va_get (ci := 6) (v := .ref (a 0)) (C := RX6) (T := TX6) (N := 14) hx hb hts hi6 hown hK hP 0 rfl rfl 0 (by decide) lk7 (fun _ h9 => h9) rfl dX6_undo_41 ?_
    refine lv_iconst (v := (0 : Int32)) hx hb dX6_undo_44 (by decide) ?_
    rw [show (190 : Int32) * (nI (c - 1)) = nI (190 * (c - 1)) from (nn_mul rfl rfl)]
    refine xw_Sv (As := [.ref (a 2), .int (nI (190 * (c - 1))), .ref (a 0), .int (0 : Int32)]) (rest := []) (wc := [((a 2), aI K 2660 (M 2))] ++ [((a 0), aI K 190 (M 0))]) (wr := (List.filterMap (fun i => (mw K h a (hput (hput M 3 (nI (c - 1))) 8 (0 : Int32)) : va_W)[i]?) ([0, 2, 4, 5, 6, 7, 8, 9] : List Nat))) ⟨hx, hb, hml, hown, hts⟩ (c_X6_lays l K (a 2) (M 2) 2660 (by decide) (190 * (c - 1)) (a 0) (M 0) 190 (by decide) 0 (by omega) (by decide) H.size) (va_cwS 4 hts gX6_undo_X6_lays rfl rfl rfl (by decide +kernel) ⟨Nat.le_of_ble_eq_true rfl, Nat.le_of_ble_eq_true rfl⟩) hK hP hD hS hA [3, 1] [0, 2, 4, 5, 6, 7, 8, 9] [0, 9, 1, 8, 2, 3, 4, 5, 6, 7] rfl rfl rfl (fun _u => mw K h a (hput (hput (hrow (hrow M 0 (layF (M 2) (M 0) (190 * (c - 1)) 0 190)) 2 (M 2)) 3 (nI (c - 1))) 8 (0 : Int32))) (fun _ => rfl) rfl hl.1 rfl (Nat.le_of_ble_eq_true rfl) (Nat.le_of_ble_eq_true rfl) (Nat.le_of_ble_eq_true rfl) dX6_undo_45 (fun _ H locs hq45 hP hD hS => ?_)
    have hP : va_P K.1 vwCl (mw K h a (hput (hput (hrow (hrow M 0 (layF (M 2) (M 0) (190 * (c - 1)) 0 190)) 2 (M 2)) 3 (nI (c - 1))) 8 (0 : Int32))) H := hP
    have hD : va_D A (mw K h a (hput (hput (hrow (hrow M 0 (layF (M 2) (M 0) (190 * (c - 1)) 0 190)) 2 (M 2)) 3 (nI (c - 1))) 8 (0 : Int32))) := hD
    refine lv_aload_n hx hb dX6_undo_48 rfl (lv_at hl 0 rfl) ?_
    refine va_get (ci := 6) (v := .int (nI (c - 1))) (C := RX6) (T := TX6) (N := 14) hx hb hts hi6 hown hK hP 0 rfl rfl 3 (by decide) lk50 (fun _ h9 => h9) rfl dX6_undo_49 ?_
    have eR1 : (layF (M 2) (M 0) (190 * (c - 1)) 0 190) = if kUndo c = 0 then layF (M 2) (M 0) (190 * (c - 1)) 0 190 else M 0 := by first | exact (if_pos (show kUndo c = 0 from (by simp [kUndo, c_9]; done))).symm | exact (if_neg (show ¬ kUndo c = 0 from (by simp [kUndo, c_9]; done))).symm | rw [if_pos (show kUndo c = 0 from (by simp [kUndo, c_9]; done))] | rw [if_neg (show ¬ kUndo c = 0 from (by simp [kUndo, c_9]; done))]
    have hP : va_P K.1 vwCl (mw K h a (hput (hput (hrow (hrow M 0 (if kUndo c = 0 then layF (M 2) (M 0) (190 * (c - 1)) 0 190 else M 0)) 2 (M 2)) 3 (nI (c - 1))) 8 (0 : Int32))) H := by rw [← eR1]; exact hP
    have hD : va_D A (mw K h a (hput (hput (hrow (hrow M 0 (if kUndo c = 0 then layF (M 2) (M 0) (190 * (c - 1)) 0 190 else M 0)) 2 (M 2)) 3 (nI (c - 1))) 8 (0 : Int32))) := by rw [← eR1]; exact hD
    have eR2 : (nI (c - 1)) = if kUndo c = 0 then nI (c - 1) else M 3 0 := by first | exact (if_pos (show kUndo c = 0 from (by simp [kUndo, c_9]; done))).symm | exact (if_neg (show ¬ kUndo c = 0 from (by simp [kUndo, c_9]; done))).symm | rw [if_pos (show kUndo c = 0 from (by simp [kUndo, c_9]; done))] | rw [if_neg (show ¬ kUndo c = 0 from (by simp [kUndo, c_9]; done))]
    have hP : va_P K.1 vwCl (mw K h a (hput (hput (hrow (hrow M 0 (if kUndo c = 0 then layF (M 2) (M 0) (190 * (c - 1)) 0 190 else M 0)) 2 (M 2)) 3 (if kUndo c = 0 then nI (c - 1) else M 3 0)) 8 (0 : Int32))) H := by rw [← eR2]; exact hP
    have hD : va_D A (mw K h a (hput (hput (hrow (hrow M 0 (if kUndo c = 0 then layF (M 2) (M 0) (190 * (c - 1)) 0 190 else M 0)) 2 (M 2)) 3 (if kUndo c = 0 then nI (c - 1) else M 3 0)) 8 (0 : Int32))) := by rw [← eR2]; exact hD
    have eR3 : (0 : Int32) = nI (kUndo c) := by exact (congrArg nI (show kUndo c = _ from (by simp [kUndo, c_9]; done))).symm
    have hP : va_P K.1 vwCl (mw K h a (hput (hput (hrow (hrow M 0 (if kUndo c = 0 then layF (M 2) (M 0) (190 * (c - 1)) 0 190 else M 0)) 2 (M 2)) 3 (if kUndo c = 0 then nI (c - 1) else M 3 0)) 8 (nI (kUndo c)))) H := by rw [← eR3]; exact hP
    have hD : va_D A (mw K h a (hput (hput (hrow (hrow M 0 (if kUndo c = 0 then layF (M 2) (M 0) (190 * (c - 1)) 0 190 else M 0)) 2 (M 2)) 3 (if kUndo c = 0 then nI (c - 1) else M 3 0)) 8 (nI (kUndo c)))) := by rw [← eR3]; exact hD
    exact hend _ _ _ _ _ _ _ () hP hD hS (Nat.le_of_ble_eq_true rfl) (Nat.le_of_ble_eq_true rfl) (by first | (intro hk9; rfl; done) | (intro hk9; simp [kUndo, c_9] at hk9; done)) dX6_undo_52
  · skip
    refine lv_aload_n hx hb dX6_undo_12 rfl (lv_at hl 0 rfl) ?_
    refine lv_iconst (v := (1 : Int32)) hx hb dX6_undo_13 (by decide) ?_
    refine xw_Vi (As := [.int (1 : Int32)]) (rest := []) (wc := mw K h a (hput M 8 (0 : Int32))) (wr := (List.filterMap (fun i => (mw K h a (hput M 8 (0 : Int32)) : va_W)[i]?) ([] : List Nat))) ⟨hx, hb, hml, hown, hts⟩ (c_X6_fails l K h a (hput M 8 (0 : Int32)) (1 : Int32) H.size) (cwV 1 hts gX6_undo_X6_fails rfl rfl rfl (by decide +kernel) ⟨Nat.le_of_ble_eq_true rfl, Nat.le_of_ble_eq_true rfl⟩) hK hP hD hS hA [0, 1, 2, 3, 4, 5, 6, 7, 8, 9] [] [0, 1, 2, 3, 4, 5, 6, 7, 8, 9] rfl rfl rfl (fun _u => mw K h a (hput M 8 (1 : Int32))) (fun _ => rfl) 0 6 rfl rfl rfl rfl hl.1 rfl (Nat.le_of_ble_eq_true rfl) (Nat.le_of_ble_eq_true rfl) (Nat.le_of_ble_eq_true rfl) dX6_undo_14 (fun r14 _ H locs hq14 hP hD hS => ?_)
    have hP : va_P K.1 vwCl (mw K h a (hput M 8 (1 : Int32))) H := hP
    have hD : va_D A (mw K h a (hput M 8 (1 : Int32))) := hD
    subst hq14
    have hP : va_P K.1 vwCl (mw K h a (hput (hrow M 0 (M 0)) 8 (1 : Int32))) H := hP
    have hD : va_D A (mw K h a (hput (hrow M 0 (M 0)) 8 (1 : Int32))) := hD
    have eR4 : (M 0) = if kUndo c = 0 then layF (M 2) (M 0) (190 * (c - 1)) 0 190 else M 0 := by first | exact (if_pos (show kUndo c = 0 from (by simp [kUndo, c_9]; done))).symm | exact (if_neg (show ¬ kUndo c = 0 from (by simp [kUndo, c_9]; done))).symm | rw [if_pos (show kUndo c = 0 from (by simp [kUndo, c_9]; done))] | rw [if_neg (show ¬ kUndo c = 0 from (by simp [kUndo, c_9]; done))]
    have hP : va_P K.1 vwCl (mw K h a (hput (hrow M 0 (if kUndo c = 0 then layF (M 2) (M 0) (190 * (c - 1)) 0 190 else M 0)) 8 (1 : Int32))) H := by rw [← eR4]; exact hP
    have hD : va_D A (mw K h a (hput (hrow M 0 (if kUndo c = 0 then layF (M 2) (M 0) (190 * (c - 1)) 0 190 else M 0)) 8 (1 : Int32))) := by rw [← eR4]; exact hD
    have hP : va_P K.1 vwCl (mw K h a (hput (hput (hrow M 0 (if kUndo c = 0 then layF (M 2) (M 0) (190 * (c - 1)) 0 190 else M 0)) 3 ((M 3) 0)) 8 (1 : Int32))) H := hP
    have hD : va_D A (mw K h a (hput (hput (hrow M 0 (if kUndo c = 0 then layF (M 2) (M 0) (190 * (c - 1)) 0 190 else M 0)) 3 ((M 3) 0)) 8 (1 : Int32))) := hD
    have eR5 : ((M 3) 0) = if kUndo c = 0 then nI (c - 1) else M 3 0 := by first | exact (if_pos (show kUndo c = 0 from (by simp [kUndo, c_9]; done))).symm | exact (if_neg (show ¬ kUndo c = 0 from (by simp [kUndo, c_9]; done))).symm | rw [if_pos (show kUndo c = 0 from (by simp [kUndo, c_9]; done))] | rw [if_neg (show ¬ kUndo c = 0 from (by simp [kUndo, c_9]; done))]
    rw [eR5] at hP hD
    have eR6 : (1 : Int32) = nI (kUndo c) := by exact (congrArg nI (show kUndo c = _ from (by simp [kUndo, c_9]; done))).symm
    have hP : va_P K.1 vwCl (mw K h a (hput (hput (hrow M 0 (if kUndo c = 0 then layF (M 2) (M 0) (190 * (c - 1)) 0 190 else M 0)) 3 (if kUndo c = 0 then nI (c - 1) else M 3 0)) 8 (nI (kUndo c)))) H := by rw [← eR6]; exact hP
    have hD : va_D A (mw K h a (hput (hput (hrow M 0 (if kUndo c = 0 then layF (M 2) (M 0) (190 * (c - 1)) 0 190 else M 0)) 3 (if kUndo c = 0 then nI (c - 1) else M 3 0)) 8 (nI (kUndo c)))) := by rw [← eR6]; exact hD
    exact hend _ _ _ _ _ _ _ () hP hD hS (Nat.le_of_ble_eq_true rfl) (Nat.le_of_ble_eq_true rfl) (by first | (intro hk9; rfl; done) | (intro hk9; simp [kUndo, c_9] at hk9; done)) dX6_undo_17

abbrev rm_X6_save : Room := { frames := 1, cells := 0, slots := 0, locals := 24 }
set_option maxHeartbeats 4000000 in
set_option maxRecDepth 100000 in
theorem c_X6_save (l : Launch) (K : KX) (h : Nat) (a : Nat → Nat) (M : HV) (v : Int32) (sz : Nat) : Met l yX6_save wsX6_save rm_X6_save (va_Pc [.ref h, .int v] (xPre K (mw K h a M) sz)) (va_Qi (fun (r9 : Int32) (_u : Unit) => kSlot v = 0 → r9 = M 0 0) (fun _u t => xPost K (va_A (mw K h a M) sz) (mw K h a (hput (hrow (hrow M 4 (if kSlot v = 0 then layF (M 0) (M 4) 0 (190 * cN v) 190 else M 4)) 5 (if kSlot v = 0 then upd (M 5) (cN v) 1 else M 5)) 8 (nI (kSlot v)))) t) (va_A (mw K h a M) sz)) 0 0 (va_A (mw K h a M) sz) := by
  refine xw_starti (cc := cX6_save) (maxL := 2) (by decide) rfl (Nat.le_of_ble_eq_true rfl) ?_
  intro p9 e9 s9 m9 below9 meth9 c9 H locs ls A av9 Q9 hx hb hlocks hml hname hts hown hK hP hD hS hA hsz hend hl
  have hown : s9.vm.findClass RX6 = some m9.cls := hown
  have hl : lv_has ls 2 [(0, .ref h), (1, .int v)] := hl
  have hi6 : ∀ w ∈ u_ws RX6 TX6 14, w ∈ wsX6_save := by decide +kernel
  have lk42 := hts (.fieldLink RX6 42 "StandInsModel" "thrown" "I") (by decide +kernel)
  have lk7 := hts (.fieldLink RX6 7 "StandInsModel" "now" "[I") (by decide +kernel)
  have lk19 := hts (.fieldLink RX6 19 "StandInsModel" "slots" "[I") (by decide +kernel)
  have lk22 := hts (.fieldLink RX6 22 "StandInsModel" "held" "[Z") (by decide +kernel)
  refine lv_aload_n hx hb dX6_save_0 rfl (lv_at hl 0 rfl) ?_
  refine lv_iconst (v := (0 : Int32)) hx hb dX6_save_1 (by decide) ?_
  refine va_put (ci := 6) (v := .int (0 : Int32)) (ty := .int) (C := RX6) (T := TX6) (N := 14) hx hb hts hi6 tyX6 tyX6_ok nmX6 hown hK hP hD hS 0 rfl rfl 8 (by decide) lk42 (fun _ h9 => h9) rfl (by decide +kernel) rfl rfl (Nat.le_of_ble_eq_true rfl) dX6_save_2 (fun H locs hP hD hS => ?_)
  have hP : va_P K.1 vwCl (mw K h a (hput M 8 (0 : Int32))) H := hP
  have hD : va_D A (mw K h a (hput M 8 (0 : Int32))) := hD
  refine lv_iload_n hx hb dX6_save_5 rfl (lv_at hl 1 rfl) ?_
  refine lv_iconst (v := (0 : Int32)) hx hb dX6_save_6 (by decide) ?_
  refine lv_iconst (v := (1 : Int32)) hx hb dX6_save_7 (by decide) ?_
  have hPc := P_sub (ws' := []) hP [] rfl
  refine xr_S (As := [.int v, .int (0 : Int32), .int (1 : Int32)]) (rest := []) ⟨hx, hb, hml, hown, hts⟩ (c_X6_in l K v (0 : Int32) (1 : Int32)) (va_cwS 3 hts gX6_save_X6_in rfl rfl rfl (by decide +kernel) ⟨Nat.le_of_ble_eq_true rfl, Nat.le_of_ble_eq_true rfl⟩) hK hPc rfl hl.1 rfl (Nat.le_of_ble_eq_true rfl) (Nat.le_of_ble_eq_true rfl) (Nat.le_of_ble_eq_true rfl) dX6_save_8 ?_
  refine xb_if_ne (tgt := 20) hx hb dX6_save_11 (by decide) (fun c_11 => ?_) (fun c_11 => ?_)
  · skip
    have hn1 := rng_cN (lo := 0) (hi := 1) c_11 (by decide)
    refine lv_aload_n hx hb dX6_save_20 rfl (lv_at hl 0 rfl) ?_
    refine va_get (ci := 6) (v := .ref (a 0)) (C := RX6) (T := TX6) (N := 14) hx hb hts hi6 hown hK hP 0 rfl rfl 0 (by decide) lk7 (fun _ h9 => h9) rfl dX6_save_21 ?_
    refine lv_iconst (v := (0 : Int32)) hx hb dX6_save_24 (by decide) ?_
    refine lv_aload_n hx hb dX6_save_25 rfl (lv_at hl 0 rfl) ?_
    refine va_get (ci := 6) (v := .ref (a 4)) (C := RX6) (T := TX6) (N := 14) hx hb hts hi6 hown hK hP 0 rfl rfl 4 (by decide) lk19 (fun _ h9 => h9) rfl dX6_save_26 ?_
    refine lv_sipush (v := (190 : Int32)) hx hb dX6_save_29 (by decide) ?_
    refine lv_iload_n hx hb dX6_save_32 rfl (lv_at hl 1 rfl) ?_
    refine lv_imul hx hb dX6_save_33 ?_
    rw [show (190 : Int32) * v = nI (190 * (cN v)) from (nn_mul rfl hn1.1)]
    refine xw_Sv (As := [.ref (a 0), .int (0 : Int32), .ref (a 4), .int (nI (190 * (cN v)))]) (rest := []) (wc := [((a 0), aI K 190 (M 0))] ++ [((a 4), aI K 380 (M 4))]) (wr := (List.filterMap (fun i => (mw K h a (hput M 8 (0 : Int32)) : va_W)[i]?) ([0, 2, 3, 5, 6, 7, 8, 9] : List Nat))) ⟨hx, hb, hml, hown, hts⟩ (c_X6_lays l K (a 0) (M 0) 190 (by decide) 0 (a 4) (M 4) 380 (by decide) (190 * (cN v)) (by decide) (by omega) H.size) (va_cwS 4 hts gX6_save_X6_lays rfl rfl rfl (by decide +kernel) ⟨Nat.le_of_ble_eq_true rfl, Nat.le_of_ble_eq_true rfl⟩) hK hP hD hS hA [1, 4] [0, 2, 3, 5, 6, 7, 8, 9] [0, 8, 1, 2, 9, 3, 4, 5, 6, 7] rfl rfl rfl (fun _u => mw K h a (hput (hrow (hrow M 0 (M 0)) 4 (layF (M 0) (M 4) 0 (190 * (cN v)) 190)) 8 (0 : Int32))) (fun _ => rfl) rfl hl.1 rfl (Nat.le_of_ble_eq_true rfl) (Nat.le_of_ble_eq_true rfl) (Nat.le_of_ble_eq_true rfl) dX6_save_34 (fun _ H locs hq34 hP hD hS => ?_)
    have hP : va_P K.1 vwCl (mw K h a (hput (hrow (hrow M 0 (M 0)) 4 (layF (M 0) (M 4) 0 (190 * (cN v)) 190)) 8 (0 : Int32))) H := hP
    have hD : va_D A (mw K h a (hput (hrow (hrow M 0 (M 0)) 4 (layF (M 0) (M 4) 0 (190 * (cN v)) 190)) 8 (0 : Int32))) := hD
    refine lv_aload_n hx hb dX6_save_37 rfl (lv_at hl 0 rfl) ?_
    refine va_get (ci := 6) (v := .ref (a 5)) (C := RX6) (T := TX6) (N := 14) hx hb hts hi6 hown hK hP 0 rfl rfl 5 (by decide) lk22 (fun _ h9 => h9) rfl dX6_save_38 ?_
    refine lv_iload_n hx hb dX6_save_41 rfl (lv_at hl 1 rfl) ?_
    refine lv_iconst (v := (1 : Int32)) hx hb dX6_save_42 (by decide) ?_
    refine xz_st hx hb hK hP hD hS 5 (f := M 5) rfl (cN v) hn1.1 (by omega) (by decide) rfl (mw K h a (hput (hrow (hrow (hrow M 0 (M 0)) 4 (layF (M 0) (M 4) 0 (190 * (cN v)) 190)) 5 (upd (M 5) (cN v) (1 : Int32))) 8 (0 : Int32))) rfl dX6_save_43 (fun H locs hP hD hS => ?_)
    refine lv_aload_n hx hb dX6_save_44 rfl (lv_at hl 0 rfl) ?_
    refine va_get (ci := 6) (v := .ref (a 0)) (C := RX6) (T := TX6) (N := 14) hx hb hts hi6 hown hK hP 0 rfl rfl 0 (by decide) lk7 (fun _ h9 => h9) rfl dX6_save_45 ?_
    refine lv_iconst (v := (0 : Int32)) hx hb dX6_save_48 (by decide) ?_
    refine xi_ld hx hb hK hP 1 (f := (M 0)) rfl 0 rfl (by omega) (by decide) dX6_save_49 ?_
    have eR2 : (layF (M 0) (M 4) 0 (190 * (cN v)) 190) = if kSlot v = 0 then layF (M 0) (M 4) 0 (190 * cN v) 190 else M 4 := by first | exact (if_pos (show kSlot v = 0 from (by simp [kSlot, c_11]; done))).symm | exact (if_neg (show ¬ kSlot v = 0 from (by simp [kSlot, c_11]; done))).symm | rw [if_pos (show kSlot v = 0 from (by simp [kSlot, c_11]; done))] | rw [if_neg (show ¬ kSlot v = 0 from (by simp [kSlot, c_11]; done))]
    rw [eR2] at hP hD
    have eR3 : (upd (M 5) (cN v) (1 : Int32)) = if kSlot v = 0 then upd (M 5) (cN v) 1 else M 5 := by first | exact (if_pos (show kSlot v = 0 from (by simp [kSlot, c_11]; done))).symm | exact (if_neg (show ¬ kSlot v = 0 from (by simp [kSlot, c_11]; done))).symm | rw [if_pos (show kSlot v = 0 from (by simp [kSlot, c_11]; done))] | rw [if_neg (show ¬ kSlot v = 0 from (by simp [kSlot, c_11]; done))]
    rw [eR3] at hP hD
    have eR4 : (0 : Int32) = nI (kSlot v) := by exact (congrArg nI (show kSlot v = _ from (by simp [kSlot, c_11]; done))).symm
    have hP : va_P K.1 vwCl (mw K h a (hput (hrow (hrow (hrow M 0 (M 0)) 4 (if kSlot v = 0 then layF (M 0) (M 4) 0 (190 * cN v) 190 else M 4)) 5 (if kSlot v = 0 then upd (M 5) (cN v) 1 else M 5)) 8 (nI (kSlot v)))) H := by rw [← eR4]; exact hP
    have hD : va_D A (mw K h a (hput (hrow (hrow (hrow M 0 (M 0)) 4 (if kSlot v = 0 then layF (M 0) (M 4) 0 (190 * cN v) 190 else M 4)) 5 (if kSlot v = 0 then upd (M 5) (cN v) 1 else M 5)) 8 (nI (kSlot v)))) := by rw [← eR4]; exact hD
    exact hend _ _ _ _ _ _ _ () hP hD hS (Nat.le_of_ble_eq_true rfl) (Nat.le_of_ble_eq_true rfl) (by first | (intro hk9; rfl; done) | (intro hk9; simp [kSlot, c_11] at hk9; done)) dX6_save_50
  · skip
    refine lv_aload_n hx hb dX6_save_14 rfl (lv_at hl 0 rfl) ?_
    refine lv_iconst (v := (1 : Int32)) hx hb dX6_save_15 (by decide) ?_
    refine xw_Vi (As := [.int (1 : Int32)]) (rest := []) (wc := mw K h a (hput M 8 (0 : Int32))) (wr := (List.filterMap (fun i => (mw K h a (hput M 8 (0 : Int32)) : va_W)[i]?) ([] : List Nat))) ⟨hx, hb, hml, hown, hts⟩ (c_X6_fails l K h a (hput M 8 (0 : Int32)) (1 : Int32) H.size) (cwV 1 hts gX6_save_X6_fails rfl rfl rfl (by decide +kernel) ⟨Nat.le_of_ble_eq_true rfl, Nat.le_of_ble_eq_true rfl⟩) hK hP hD hS hA [0, 1, 2, 3, 4, 5, 6, 7, 8, 9] [] [0, 1, 2, 3, 4, 5, 6, 7, 8, 9] rfl rfl rfl (fun _u => mw K h a (hput M 8 (1 : Int32))) (fun _ => rfl) 0 6 rfl rfl rfl rfl hl.1 rfl (Nat.le_of_ble_eq_true rfl) (Nat.le_of_ble_eq_true rfl) (Nat.le_of_ble_eq_true rfl) dX6_save_16 (fun r16 _ H locs hq16 hP hD hS => ?_)
    have hP : va_P K.1 vwCl (mw K h a (hput M 8 (1 : Int32))) H := hP
    have hD : va_D A (mw K h a (hput M 8 (1 : Int32))) := hD
    subst hq16
    have hP : va_P K.1 vwCl (mw K h a (hput (hrow M 4 (M 4)) 8 (1 : Int32))) H := hP
    have hD : va_D A (mw K h a (hput (hrow M 4 (M 4)) 8 (1 : Int32))) := hD
    have eR5 : (M 4) = if kSlot v = 0 then layF (M 0) (M 4) 0 (190 * cN v) 190 else M 4 := by first | exact (if_pos (show kSlot v = 0 from (by simp [kSlot, c_11]; done))).symm | exact (if_neg (show ¬ kSlot v = 0 from (by simp [kSlot, c_11]; done))).symm | rw [if_pos (show kSlot v = 0 from (by simp [kSlot, c_11]; done))] | rw [if_neg (show ¬ kSlot v = 0 from (by simp [kSlot, c_11]; done))]
    have hP : va_P K.1 vwCl (mw K h a (hput (hrow M 4 (if kSlot v = 0 then layF (M 0) (M 4) 0 (190 * cN v) 190 else M 4)) 8 (1 : Int32))) H := by rw [← eR5]; exact hP
    have hD : va_D A (mw K h a (hput (hrow M 4 (if kSlot v = 0 then layF (M 0) (M 4) 0 (190 * cN v) 190 else M 4)) 8 (1 : Int32))) := by rw [← eR5]; exact hD
    have hP : va_P K.1 vwCl (mw K h a (hput (hrow (hrow M 4 (if kSlot v = 0 then layF (M 0) (M 4) 0 (190 * cN v) 190 else M 4)) 5 (M 5)) 8 (1 : Int32))) H := hP
    have hD : va_D A (mw K h a (hput (hrow (hrow M 4 (if kSlot v = 0 then layF (M 0) (M 4) 0 (190 * cN v) 190 else M 4)) 5 (M 5)) 8 (1 : Int32))) := hD
    have eR6 : (M 5) = if kSlot v = 0 then upd (M 5) (cN v) 1 else M 5 := by first | exact (if_pos (show kSlot v = 0 from (by simp [kSlot, c_11]; done))).symm | exact (if_neg (show ¬ kSlot v = 0 from (by simp [kSlot, c_11]; done))).symm | rw [if_pos (show kSlot v = 0 from (by simp [kSlot, c_11]; done))] | rw [if_neg (show ¬ kSlot v = 0 from (by simp [kSlot, c_11]; done))]
    have hP : va_P K.1 vwCl (mw K h a (hput (hrow (hrow M 4 (if kSlot v = 0 then layF (M 0) (M 4) 0 (190 * cN v) 190 else M 4)) 5 (if kSlot v = 0 then upd (M 5) (cN v) 1 else M 5)) 8 (1 : Int32))) H := by rw [← eR6]; exact hP
    have hD : va_D A (mw K h a (hput (hrow (hrow M 4 (if kSlot v = 0 then layF (M 0) (M 4) 0 (190 * cN v) 190 else M 4)) 5 (if kSlot v = 0 then upd (M 5) (cN v) 1 else M 5)) 8 (1 : Int32))) := by rw [← eR6]; exact hD
    have eR7 : (1 : Int32) = nI (kSlot v) := by exact (congrArg nI (show kSlot v = _ from (by simp [kSlot, c_11]; done))).symm
    have hP : va_P K.1 vwCl (mw K h a (hput (hrow (hrow M 4 (if kSlot v = 0 then layF (M 0) (M 4) 0 (190 * cN v) 190 else M 4)) 5 (if kSlot v = 0 then upd (M 5) (cN v) 1 else M 5)) 8 (nI (kSlot v)))) H := by rw [← eR7]; exact hP
    have hD : va_D A (mw K h a (hput (hrow (hrow M 4 (if kSlot v = 0 then layF (M 0) (M 4) 0 (190 * cN v) 190 else M 4)) 5 (if kSlot v = 0 then upd (M 5) (cN v) 1 else M 5)) 8 (nI (kSlot v)))) := by rw [← eR7]; exact hD
    exact hend _ _ _ _ _ _ _ () hP hD hS (Nat.le_of_ble_eq_true rfl) (Nat.le_of_ble_eq_true rfl) (by first | (intro hk9; rfl; done) | (intro hk9; simp [kSlot, c_11] at hk9; done)) dX6_save_19

abbrev rm_X6_restore : Room := { frames := 1, cells := 0, slots := 0, locals := 24 }
set_option maxHeartbeats 4000000 in
set_option maxRecDepth 100000 in
theorem c_X6_restore (l : Launch) (K : KX) (h : Nat) (a : Nat → Nat) (M : HV) (v : Int32) (sz : Nat) : Met l yX6_restore wsX6_restore rm_X6_restore (va_Pc [.ref h, .int v] (xPre K (mw K h a M) sz)) (va_Qi (fun (r9 : Int32) (_u : Unit) => kRest (M 5) v = 0 → r9 = M 4 (190 * cN v + 0)) (fun _u t => xPost K (va_A (mw K h a M) sz) (mw K h a (hput (hput (hrow M 0 (if kRest (M 5) v = 0 then layF (M 4) (M 0) (190 * cN v) 0 190 else M 0)) 3 (if kRest (M 5) v = 0 then 0 else M 3 0)) 8 (nI (kRest (M 5) v)))) t) (va_A (mw K h a M) sz)) 0 0 (va_A (mw K h a M) sz) := by
  refine xw_starti (cc := cX6_restore) (maxL := 2) (by decide) rfl (Nat.le_of_ble_eq_true rfl) ?_
  intro p9 e9 s9 m9 below9 meth9 c9 H locs ls A av9 Q9 hx hb hlocks hml hname hts hown hK hP hD hS hA hsz hend hl
  have hown : s9.vm.findClass RX6 = some m9.cls := hown
  have hl : lv_has ls 2 [(0, .ref h), (1, .int v)] := hl
  have hi6 : ∀ w ∈ u_ws RX6 TX6 14, w ∈ wsX6_restore := by decide +kernel
  have lk42 := hts (.fieldLink RX6 42 "StandInsModel" "thrown" "I") (by decide +kernel)
  have lk22 := hts (.fieldLink RX6 22 "StandInsModel" "held" "[Z") (by decide +kernel)
  have lk19 := hts (.fieldLink RX6 19 "StandInsModel" "slots" "[I") (by decide +kernel)
  have lk7 := hts (.fieldLink RX6 7 "StandInsModel" "now" "[I") (by decide +kernel)
  have lk50 := hts (.fieldLink RX6 50 "StandInsModel" "kept" "I") (by decide +kernel)
  refine lv_aload_n hx hb dX6_restore_0 rfl (lv_at hl 0 rfl) ?_
  refine lv_iconst (v := (0 : Int32)) hx hb dX6_restore_1 (by decide) ?_
  refine va_put (ci := 6) (v := .int (0 : Int32)) (ty := .int) (C := RX6) (T := TX6) (N := 14) hx hb hts hi6 tyX6 tyX6_ok nmX6 hown hK hP hD hS 0 rfl rfl 8 (by decide) lk42 (fun _ h9 => h9) rfl (by decide +kernel) rfl rfl (Nat.le_of_ble_eq_true rfl) dX6_restore_2 (fun H locs hP hD hS => ?_)
  have hP : va_P K.1 vwCl (mw K h a (hput M 8 (0 : Int32))) H := hP
  have hD : va_D A (mw K h a (hput M 8 (0 : Int32))) := hD
  refine lv_iload_n hx hb dX6_restore_5 rfl (lv_at hl 1 rfl) ?_
  refine lv_iconst (v := (0 : Int32)) hx hb dX6_restore_6 (by decide) ?_
  refine lv_iconst (v := (1 : Int32)) hx hb dX6_restore_7 (by decide) ?_
  have hPc := P_sub (ws' := []) hP [] rfl
  refine xr_S (As := [.int v, .int (0 : Int32), .int (1 : Int32)]) (rest := []) ⟨hx, hb, hml, hown, hts⟩ (c_X6_in l K v (0 : Int32) (1 : Int32)) (va_cwS 3 hts gX6_restore_X6_in rfl rfl rfl (by decide +kernel) ⟨Nat.le_of_ble_eq_true rfl, Nat.le_of_ble_eq_true rfl⟩) hK hPc rfl hl.1 rfl (Nat.le_of_ble_eq_true rfl) (Nat.le_of_ble_eq_true rfl) (Nat.le_of_ble_eq_true rfl) dX6_restore_8 ?_
  refine xb_if_ne (tgt := 20) hx hb dX6_restore_11 (by decide) (fun c_11 => ?_) (fun c_11 => ?_)
  · skip
    have hn1 := rng_cN (lo := 0) (hi := 1) c_11 (by decide)
    refine lv_aload_n hx hb dX6_restore_20 rfl (lv_at hl 0 rfl) ?_
    refine va_get (ci := 6) (v := .ref (a 5)) (C := RX6) (T := TX6) (N := 14) hx hb hts hi6 hown hK hP 0 rfl rfl 5 (by decide) lk22 (fun _ h9 => h9) rfl dX6_restore_21 ?_
    refine lv_iload_n hx hb dX6_restore_24 rfl (lv_at hl 1 rfl) ?_
    refine xz_ld hx hb hK hP 5 (f := M 5) rfl (cN v) hn1.1 (by omega) (by decide) dX6_restore_25 ?_
    refine lv_if_ne (tgt := 35) hx hb dX6_restore_26 (by decide) (fun c_26 => ?_) (fun c_26 => ?_)
    · skip
      refine lv_aload_n hx hb dX6_restore_35 rfl (lv_at hl 0 rfl) ?_
      refine va_get (ci := 6) (v := .ref (a 4)) (C := RX6) (T := TX6) (N := 14) hx hb hts hi6 hown hK hP 0 rfl rfl 4 (by decide) lk19 (fun _ h9 => h9) rfl dX6_restore_36 ?_
      refine lv_sipush (v := (190 : Int32)) hx hb dX6_restore_39 (by decide) ?_
      refine lv_iload_n hx hb dX6_restore_42 rfl (lv_at hl 1 rfl) ?_
      refine lv_imul hx hb dX6_restore_43 ?_
      refine lv_aload_n hx hb dX6_restore_44 rfl (lv_at hl 0 rfl) ?_
      refine va_get (ci := 6) (v := .ref (a 0)) (C := RX6) (T := TX6) (N := 14) hx hb hts hi6 hown hK hP 0 rfl rfl 0 (by decide) lk7 (fun _ h9 => h9) rfl dX6_restore_45 ?_
      refine lv_iconst (v := (0 : Int32)) hx hb dX6_restore_48 (by decide) ?_
      rw [show (190 : Int32) * v = nI (190 * (cN v)) from (nn_mul rfl hn1.1)]
      refine xw_Sv (As := [.ref (a 4), .int (nI (190 * (cN v))), .ref (a 0), .int (0 : Int32)]) (rest := []) (wc := [((a 4), aI K 380 (M 4))] ++ [((a 0), aI K 190 (M 0))]) (wr := (List.filterMap (fun i => (mw K h a (hput M 8 (0 : Int32)) : va_W)[i]?) ([0, 2, 3, 5, 6, 7, 8, 9] : List Nat))) ⟨hx, hb, hml, hown, hts⟩ (c_X6_lays l K (a 4) (M 4) 380 (by decide) (190 * (cN v)) (a 0) (M 0) 190 (by decide) 0 (by omega) (by decide) H.size) (va_cwS 4 hts gX6_restore_X6_lays rfl rfl rfl (by decide +kernel) ⟨Nat.le_of_ble_eq_true rfl, Nat.le_of_ble_eq_true rfl⟩) hK hP hD hS hA [4, 1] [0, 2, 3, 5, 6, 7, 8, 9] [0, 9, 1, 2, 8, 3, 4, 5, 6, 7] rfl rfl rfl (fun _u => mw K h a (hput (hrow (hrow M 0 (layF (M 4) (M 0) (190 * (cN v)) 0 190)) 4 (M 4)) 8 (0 : Int32))) (fun _ => rfl) rfl hl.1 rfl (Nat.le_of_ble_eq_true rfl) (Nat.le_of_ble_eq_true rfl) (Nat.le_of_ble_eq_true rfl) dX6_restore_49 (fun _ H locs hq49 hP hD hS => ?_)
      have hP : va_P K.1 vwCl (mw K h a (hput (hrow (hrow M 0 (layF (M 4) (M 0) (190 * (cN v)) 0 190)) 4 (M 4)) 8 (0 : Int32))) H := hP
      have hD : va_D A (mw K h a (hput (hrow (hrow M 0 (layF (M 4) (M 0) (190 * (cN v)) 0 190)) 4 (M 4)) 8 (0 : Int32))) := hD
      refine lv_aload_n hx hb dX6_restore_52 rfl (lv_at hl 0 rfl) ?_
      refine lv_iconst (v := (0 : Int32)) hx hb dX6_restore_53 (by decide) ?_
      refine va_put (ci := 6) (v := .int (0 : Int32)) (ty := .int) (C := RX6) (T := TX6) (N := 14) hx hb hts hi6 tyX6 tyX6_ok nmX6 hown hK hP hD hS 0 rfl rfl 3 (by decide) lk50 (fun _ h9 => h9) rfl (by decide +kernel) rfl rfl (Nat.le_of_ble_eq_true rfl) dX6_restore_54 (fun H locs hP hD hS => ?_)
      have hP : va_P K.1 vwCl (mw K h a (hput (hrow (hput (hrow M 0 (layF (M 4) (M 0) (190 * (cN v)) 0 190)) 3 (0 : Int32)) 4 (M 4)) 8 (0 : Int32))) H := hP
      have hD : va_D A (mw K h a (hput (hrow (hput (hrow M 0 (layF (M 4) (M 0) (190 * (cN v)) 0 190)) 3 (0 : Int32)) 4 (M 4)) 8 (0 : Int32))) := hD
      refine lv_aload_n hx hb dX6_restore_57 rfl (lv_at hl 0 rfl) ?_
      refine va_get (ci := 6) (v := .ref (a 0)) (C := RX6) (T := TX6) (N := 14) hx hb hts hi6 hown hK hP 0 rfl rfl 0 (by decide) lk7 (fun _ h9 => h9) rfl dX6_restore_58 ?_
      refine lv_iconst (v := (0 : Int32)) hx hb dX6_restore_61 (by decide) ?_
      refine xi_ld hx hb hK hP 1 (f := (layF (M 4) (M 0) (190 * (cN v)) 0 190)) rfl 0 rfl (by omega) (by decide) dX6_restore_62 ?_
      have eR2 : (layF (M 4) (M 0) (190 * (cN v)) 0 190) = if kRest (M 5) v = 0 then layF (M 4) (M 0) (190 * cN v) 0 190 else M 0 := by first | exact (if_pos (show kRest (M 5) v = 0 from (by simp [kRest, c_11, c_26]; done))).symm | exact (if_neg (show ¬ kRest (M 5) v = 0 from (by simp [kRest, c_11, c_26]; done))).symm | rw [if_pos (show kRest (M 5) v = 0 from (by simp [kRest, c_11, c_26]; done))] | rw [if_neg (show ¬ kRest (M 5) v = 0 from (by simp [kRest, c_11, c_26]; done))]
      rw [eR2] at hP hD
      have eR3 : (0 : Int32) = if kRest (M 5) v = 0 then 0 else M 3 0 := by first | exact (if_pos (show kRest (M 5) v = 0 from (by simp [kRest, c_11, c_26]; done))).symm | exact (if_neg (show ¬ kRest (M 5) v = 0 from (by simp [kRest, c_11, c_26]; done))).symm | rw [if_pos (show kRest (M 5) v = 0 from (by simp [kRest, c_11, c_26]; done))] | rw [if_neg (show ¬ kRest (M 5) v = 0 from (by simp [kRest, c_11, c_26]; done))]
      have hP : va_P K.1 vwCl (mw K h a (hput (hrow (hput (hrow M 0 (if kRest (M 5) v = 0 then layF (M 4) (M 0) (190 * cN v) 0 190 else M 0)) 3 (if kRest (M 5) v = 0 then 0 else M 3 0)) 4 (M 4)) 8 (0 : Int32))) H := by rw [← eR3]; exact hP
      have hD : va_D A (mw K h a (hput (hrow (hput (hrow M 0 (if kRest (M 5) v = 0 then layF (M 4) (M 0) (190 * cN v) 0 190 else M 0)) 3 (if kRest (M 5) v = 0 then 0 else M 3 0)) 4 (M 4)) 8 (0 : Int32))) := by rw [← eR3]; exact hD
      have eR4 : (0 : Int32) = nI (kRest (M 5) v) := by exact (congrArg nI (show kRest (M 5) v = _ from (by simp [kRest, c_11, c_26]; done))).symm
      have hP : va_P K.1 vwCl (mw K h a (hput (hrow (hput (hrow M 0 (if kRest (M 5) v = 0 then layF (M 4) (M 0) (190 * cN v) 0 190 else M 0)) 3 (if kRest (M 5) v = 0 then 0 else M 3 0)) 4 (M 4)) 8 (nI (kRest (M 5) v)))) H := by rw [← eR4]; exact hP
      have hD : va_D A (mw K h a (hput (hrow (hput (hrow M 0 (if kRest (M 5) v = 0 then layF (M 4) (M 0) (190 * cN v) 0 190 else M 0)) 3 (if kRest (M 5) v = 0 then 0 else M 3 0)) 4 (M 4)) 8 (nI (kRest (M 5) v)))) := by rw [← eR4]; exact hD
      exact hend _ _ _ _ _ _ _ () hP hD hS (Nat.le_of_ble_eq_true rfl) (Nat.le_of_ble_eq_true rfl) (by first | (intro hk9; exact if_pos (by decide); done) | (intro hk9; simp [kRest, c_11, c_26] at hk9; done)) dX6_restore_63
    · skip
      refine lv_aload_n hx hb dX6_restore_29 rfl (lv_at hl 0 rfl) ?_
      refine lv_iconst (v := (2 : Int32)) hx hb dX6_restore_30 (by decide) ?_
      refine xw_Vi (As := [.int (2 : Int32)]) (rest := []) (wc := mw K h a (hput M 8 (0 : Int32))) (wr := (List.filterMap (fun i => (mw K h a (hput M 8 (0 : Int32)) : va_W)[i]?) ([] : List Nat))) ⟨hx, hb, hml, hown, hts⟩ (c_X6_fails l K h a (hput M 8 (0 : Int32)) (2 : Int32) H.size) (cwV 1 hts gX6_restore_X6_fails rfl rfl rfl (by decide +kernel) ⟨Nat.le_of_ble_eq_true rfl, Nat.le_of_ble_eq_true rfl⟩) hK hP hD hS hA [0, 1, 2, 3, 4, 5, 6, 7, 8, 9] [] [0, 1, 2, 3, 4, 5, 6, 7, 8, 9] rfl rfl rfl (fun _u => mw K h a (hput M 8 (2 : Int32))) (fun _ => rfl) 0 6 rfl rfl rfl rfl hl.1 rfl (Nat.le_of_ble_eq_true rfl) (Nat.le_of_ble_eq_true rfl) (Nat.le_of_ble_eq_true rfl) dX6_restore_31 (fun r31 _ H locs hq31 hP hD hS => ?_)
      have hP : va_P K.1 vwCl (mw K h a (hput M 8 (2 : Int32))) H := hP
      have hD : va_D A (mw K h a (hput M 8 (2 : Int32))) := hD
      subst hq31
      have hP : va_P K.1 vwCl (mw K h a (hput (hrow M 0 (M 0)) 8 (2 : Int32))) H := hP
      have hD : va_D A (mw K h a (hput (hrow M 0 (M 0)) 8 (2 : Int32))) := hD
      have eR5 : (M 0) = if kRest (M 5) v = 0 then layF (M 4) (M 0) (190 * cN v) 0 190 else M 0 := by first | exact (if_pos (show kRest (M 5) v = 0 from (by simp [kRest, c_11, c_26]; done))).symm | exact (if_neg (show ¬ kRest (M 5) v = 0 from (by simp [kRest, c_11, c_26]; done))).symm | rw [if_pos (show kRest (M 5) v = 0 from (by simp [kRest, c_11, c_26]; done))] | rw [if_neg (show ¬ kRest (M 5) v = 0 from (by simp [kRest, c_11, c_26]; done))]
      have hP : va_P K.1 vwCl (mw K h a (hput (hrow M 0 (if kRest (M 5) v = 0 then layF (M 4) (M 0) (190 * cN v) 0 190 else M 0)) 8 (2 : Int32))) H := by rw [← eR5]; exact hP
      have hD : va_D A (mw K h a (hput (hrow M 0 (if kRest (M 5) v = 0 then layF (M 4) (M 0) (190 * cN v) 0 190 else M 0)) 8 (2 : Int32))) := by rw [← eR5]; exact hD
      have hP : va_P K.1 vwCl (mw K h a (hput (hput (hrow M 0 (if kRest (M 5) v = 0 then layF (M 4) (M 0) (190 * cN v) 0 190 else M 0)) 3 ((M 3) 0)) 8 (2 : Int32))) H := hP
      have hD : va_D A (mw K h a (hput (hput (hrow M 0 (if kRest (M 5) v = 0 then layF (M 4) (M 0) (190 * cN v) 0 190 else M 0)) 3 ((M 3) 0)) 8 (2 : Int32))) := hD
      have eR6 : ((M 3) 0) = if kRest (M 5) v = 0 then 0 else M 3 0 := by first | exact (if_pos (show kRest (M 5) v = 0 from (by simp [kRest, c_11, c_26]; done))).symm | exact (if_neg (show ¬ kRest (M 5) v = 0 from (by simp [kRest, c_11, c_26]; done))).symm | rw [if_pos (show kRest (M 5) v = 0 from (by simp [kRest, c_11, c_26]; done))] | rw [if_neg (show ¬ kRest (M 5) v = 0 from (by simp [kRest, c_11, c_26]; done))]
      rw [eR6] at hP hD
      have eR7 : (2 : Int32) = nI (kRest (M 5) v) := by exact (congrArg nI (show kRest (M 5) v = _ from (by simp [kRest, c_11, c_26]; done))).symm
      have hP : va_P K.1 vwCl (mw K h a (hput (hput (hrow M 0 (if kRest (M 5) v = 0 then layF (M 4) (M 0) (190 * cN v) 0 190 else M 0)) 3 (if kRest (M 5) v = 0 then 0 else M 3 0)) 8 (nI (kRest (M 5) v)))) H := by rw [← eR7]; exact hP
      have hD : va_D A (mw K h a (hput (hput (hrow M 0 (if kRest (M 5) v = 0 then layF (M 4) (M 0) (190 * cN v) 0 190 else M 0)) 3 (if kRest (M 5) v = 0 then 0 else M 3 0)) 8 (nI (kRest (M 5) v)))) := by rw [← eR7]; exact hD
      exact hend _ _ _ _ _ _ _ () hP hD hS (Nat.le_of_ble_eq_true rfl) (Nat.le_of_ble_eq_true rfl) (by first | (intro hk9; exact if_pos (by decide); done) | (intro hk9; simp [kRest, c_11, c_26] at hk9; done)) dX6_restore_34
  · skip
    refine lv_aload_n hx hb dX6_restore_14 rfl (lv_at hl 0 rfl) ?_
    refine lv_iconst (v := (1 : Int32)) hx hb dX6_restore_15 (by decide) ?_
    refine xw_Vi (As := [.int (1 : Int32)]) (rest := []) (wc := mw K h a (hput M 8 (0 : Int32))) (wr := (List.filterMap (fun i => (mw K h a (hput M 8 (0 : Int32)) : va_W)[i]?) ([] : List Nat))) ⟨hx, hb, hml, hown, hts⟩ (c_X6_fails l K h a (hput M 8 (0 : Int32)) (1 : Int32) H.size) (cwV 1 hts gX6_restore_X6_fails rfl rfl rfl (by decide +kernel) ⟨Nat.le_of_ble_eq_true rfl, Nat.le_of_ble_eq_true rfl⟩) hK hP hD hS hA [0, 1, 2, 3, 4, 5, 6, 7, 8, 9] [] [0, 1, 2, 3, 4, 5, 6, 7, 8, 9] rfl rfl rfl (fun _u => mw K h a (hput M 8 (1 : Int32))) (fun _ => rfl) 0 6 rfl rfl rfl rfl hl.1 rfl (Nat.le_of_ble_eq_true rfl) (Nat.le_of_ble_eq_true rfl) (Nat.le_of_ble_eq_true rfl) dX6_restore_16 (fun r16 _ H locs hq16 hP hD hS => ?_)
    have hP : va_P K.1 vwCl (mw K h a (hput M 8 (1 : Int32))) H := hP
    have hD : va_D A (mw K h a (hput M 8 (1 : Int32))) := hD
    subst hq16
    have hP : va_P K.1 vwCl (mw K h a (hput (hrow M 0 (M 0)) 8 (1 : Int32))) H := hP
    have hD : va_D A (mw K h a (hput (hrow M 0 (M 0)) 8 (1 : Int32))) := hD
    have eR8 : (M 0) = if kRest (M 5) v = 0 then layF (M 4) (M 0) (190 * cN v) 0 190 else M 0 := by first | exact (if_pos (show kRest (M 5) v = 0 from (by simp [kRest, c_11]; done))).symm | exact (if_neg (show ¬ kRest (M 5) v = 0 from (by simp [kRest, c_11]; done))).symm | rw [if_pos (show kRest (M 5) v = 0 from (by simp [kRest, c_11]; done))] | rw [if_neg (show ¬ kRest (M 5) v = 0 from (by simp [kRest, c_11]; done))]
    have hP : va_P K.1 vwCl (mw K h a (hput (hrow M 0 (if kRest (M 5) v = 0 then layF (M 4) (M 0) (190 * cN v) 0 190 else M 0)) 8 (1 : Int32))) H := by rw [← eR8]; exact hP
    have hD : va_D A (mw K h a (hput (hrow M 0 (if kRest (M 5) v = 0 then layF (M 4) (M 0) (190 * cN v) 0 190 else M 0)) 8 (1 : Int32))) := by rw [← eR8]; exact hD
    have hP : va_P K.1 vwCl (mw K h a (hput (hput (hrow M 0 (if kRest (M 5) v = 0 then layF (M 4) (M 0) (190 * cN v) 0 190 else M 0)) 3 ((M 3) 0)) 8 (1 : Int32))) H := hP
    have hD : va_D A (mw K h a (hput (hput (hrow M 0 (if kRest (M 5) v = 0 then layF (M 4) (M 0) (190 * cN v) 0 190 else M 0)) 3 ((M 3) 0)) 8 (1 : Int32))) := hD
    have eR9 : ((M 3) 0) = if kRest (M 5) v = 0 then 0 else M 3 0 := by first | exact (if_pos (show kRest (M 5) v = 0 from (by simp [kRest, c_11]; done))).symm | exact (if_neg (show ¬ kRest (M 5) v = 0 from (by simp [kRest, c_11]; done))).symm | rw [if_pos (show kRest (M 5) v = 0 from (by simp [kRest, c_11]; done))] | rw [if_neg (show ¬ kRest (M 5) v = 0 from (by simp [kRest, c_11]; done))]
    rw [eR9] at hP hD
    have eR10 : (1 : Int32) = nI (kRest (M 5) v) := by exact (congrArg nI (show kRest (M 5) v = _ from (by simp [kRest, c_11]; done))).symm
    have hP : va_P K.1 vwCl (mw K h a (hput (hput (hrow M 0 (if kRest (M 5) v = 0 then layF (M 4) (M 0) (190 * cN v) 0 190 else M 0)) 3 (if kRest (M 5) v = 0 then 0 else M 3 0)) 8 (nI (kRest (M 5) v)))) H := by rw [← eR10]; exact hP
    have hD : va_D A (mw K h a (hput (hput (hrow M 0 (if kRest (M 5) v = 0 then layF (M 4) (M 0) (190 * cN v) 0 190 else M 0)) 3 (if kRest (M 5) v = 0 then 0 else M 3 0)) 8 (nI (kRest (M 5) v)))) := by rw [← eR10]; exact hD
    exact hend _ _ _ _ _ _ _ () hP hD hS (Nat.le_of_ble_eq_true rfl) (Nat.le_of_ble_eq_true rfl) (by first | (intro hk9; exact if_pos (by decide); done) | (intro hk9; simp [kRest, c_11] at hk9; done)) dX6_restore_19

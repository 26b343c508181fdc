/-! playing, posting, who is missed -/
def hPf (S : HV) (cs : Nat → Nat) : Nat → HV | 0 => S | r + 1 => hPay (hPf S cs r) r (cs r)
def pdF (S : HV) (cs : Nat → Nat) : Nat → Int32 | 0 => 0 | r + 1 => pdF S cs r + pPay (hPf S cs r) r (cs r)
theorem hPay_keep (S : HV) (r p j : Nat) (h : j ≠ 4 ∧ j ≠ 5 ∧ j ≠ 8 ∧ j ≠ 15) : hPay S r p j = S j := by
  unfold hPay
  split
  · rw [hset, hrow_ne _ _ (by omega), hset, hrow_ne _ _ (by omega), hset, hrow_ne _ _ (by omega)]
  · rw [hset, hrow_ne _ _ (by omega), hset, hrow_ne _ _ (by omega), hset, hrow_ne _ _ (by omega), hput, hrow_ne _ _ (by omega)]
theorem hPf_keep (S : HV) (cs : Nat → Nat) (j : Nat) (h : j ≠ 4 ∧ j ≠ 5 ∧ j ≠ 8 ∧ j ≠ 15) : ∀ r, hPf S cs r j = S j
  | 0 => rfl
  | r + 1 => by
    rw [hPf, hPay_keep _ _ _ _ h, hPf_keep S cs j h r]
theorem hPf_f {S : HV} (cs : Nat → Nat) {j n : Nat} (h : j ≠ 4 ∧ j ≠ 5 ∧ j ≠ 8 ∧ j ≠ 15) (r : Nat) (e : S j 0 = nI n) : hPf S cs r j 0 = nI n := by
  rw [hPf_keep S cs j h r, e]
def pkw (S : HV) (R P : Nat) : Nat → Nat := fun r => pick (wFr S (frN S P)) R P r (tkF (wFr S (frN S P)) R P r)
abbrev hStr (S : HV) (R P : Nat) : Int32 := dpS (wFr S (frN S P)) R P R 0
theorem cast_of {S : HV} {R P : Nat} {D : HV} (hP : P ≤ 10) (h : castOK (wFr S (frN S P)) R P D) (hd : ¬ hStr S R P = -1) : ∀ r, r < R → D 2 r = nI (pkw S R P r) ∧ pkw S R P r < P := by
  intro r hr
  obtain ⟨a1, -⟩ := tkF_spec hP hd r (by omega)
  obtain ⟨b1, -⟩ := pick_spec hr a1
  exact ⟨by rw [h.2 r hr, csF, if_neg hd]; rfl, b1⟩
def rwF (f : Nat → Int32) (D : HV) (R k : Nat) : Nat → Int32 := fun j => if j < k then (if fstF (fun r => decide (D 2 r = nI j)) 0 R = -1 then 0 else f j + 1) else f j
theorem rw_e (T : HV) (D : HV) (R : Nat) : T = hrow T 6 (rwF (T 6) D R 0) := by
  have h : T 6 = rwF (T 6) D R 0 := by
    funext j
    simp [rwF]
  rw [← h, hrow_same]
theorem rw_s (T : HV) (f : Nat → Int32) (D : HV) (R k : Nat) {v : Int32} (hv : v = (if fstF (fun r => decide (D 2 r = nI k)) 0 R = -1 then 0 else f k + 1)) : hset (hrow T 6 (rwF f D R k)) 6 k v = hrow T 6 (rwF f D R (k + 1)) := by
  unfold hset
  rw [hrow_hrow, hrow_self]
  congr 1
  funext j
  unfold upd rwF
  by_cases e : j = k
  · subst e
    simp [hv]
  · simp only [if_neg e]
    by_cases c : j < k
    · have c2 : j < k + 1 := by omega
      rw [if_pos c, if_pos c2]
    · have c2 : ¬ j < k + 1 := by omega
      rw [if_neg c, if_neg c2]
theorem rw_k (f : Nat → Int32) (D : HV) (R k : Nat) : rwF f D R k k = f k := by simp [rwF]
def rwS (S : HV) (R P : Nat) : Nat → Int32 := fun j => if j < P then (if fstF (fun r => decide (csF (wFr S (frN S P)) R P r = nI j)) 0 R = -1 then 0 else S 6 j + 1) else S 6 j
theorem fstF_cong {c d : Nat → Bool} : ∀ (n i : Nat), (∀ r, i ≤ r → r < i + n → c r = d r) → fstF c i n = fstF d i n
  | 0, _, _ => rfl
  | n + 1, i, h => by
    unfold fstF
    rw [h i (Nat.le_refl _) (by omega), fstF_cong n (i + 1) (fun r a b => h r (by omega) (by omega))]
theorem rw_S {S : HV} {D : HV} {R P : Nat} (h : castOK (wFr S (frN S P)) R P D) : rwF (S 6) D R P = rwS S R P := by
  funext j
  unfold rwF rwS
  by_cases c : j < P
  · rw [if_pos c, if_pos c, fstF_cong R 0 (fun r _ hr => by rw [h.2 r (by omega)])]
  · rw [if_neg c, if_neg c]
def hPlay (S : HV) (R P : Nat) : HV := hput (hput (hrow (if hStr S R P = -1 then hput S 14 (S 14 0 + 1) else hput (hPf S (pkw S R P) R) 13 (hPf S (pkw S R P) R 13 0 + 1)) 6 (rwS S R P)) 12 (S 12 0 + 1)) 16 0
def hPaid (S : HV) (R P : Nat) : Int32 := if hStr S R P = -1 then -1 else pdF S (pkw S R P) R
def hPost (S : HV) (R P : Nat) : HV := hput (hrow S 2 (fun j => if j < R then csF (wFr S (frN S P)) R P j else S 2 j)) 16 1
theorem post_row {S : HV} {D : HV} {R P : Nat} (h : castOK (wFr S (frN S P)) R P D) : copF (D 2) (S 2) R = fun j => if j < R then csF (wFr S (frN S P)) R P j else S 2 j := by
  funext j
  unfold copF
  by_cases c : j < R
  · rw [if_pos c, if_pos c, h.2 j c]
  · rw [if_neg c, if_neg c]
def mmF (S : HV) (R P : Nat) : Nat → Int32 × Int32 | 0 => (-1, 0) | k + 1 => if hFree S k then (if (mmF S R P k).1 = -1 ∨ dpS (wFr S (frB S k P)) R P R 0 < (mmF S R P k).2 then (nI k, dpS (wFr S (frB S k P)) R P R 0) else mmF S R P k) else mmF S R P k

abbrev rm_X2_perform : Room := { frames := 2, cells := 0, slots := 0, locals := 44 }
set_option maxHeartbeats 4000000 in
set_option maxRecDepth 100000 in
theorem c_X2_perform (l : Launch) (K : KX) (h : Nat) (a : Nat → Nat) (S : HV) (c : Nat) (b : Nat → Nat) (C : HV) (cs : Nat → Nat) (R : Nat) (hR0 : S 10 0 = nI R) (hR0b : R ≤ 6) (P : Nat) (hP0 : S 11 0 = nI P) (hP0b : P ≤ 10) (hC3 : C 3 0 = nI R) (hcs : ∀ r, r < R → C 2 r = nI (cs r) ∧ cs r < P) (sz : Nat) : Met l yX2_perform wsX2_perform rm_X2_perform (va_Pc [.ref h, .ref c] (xPre K (hw K h a S ++ cw K c b C) sz)) (va_Qi (fun (r9 : Int32) (_u : Unit) => r9 = pdF S cs R) (fun _u t => xPost K (va_A (hw K h a S ++ cw K c b C) sz) (hw K h a (hput (hPf S cs R) 13 (hPf S cs R 13 0 + 1)) ++ cw K c b C) t) (va_A (hw K h a S ++ cw K c b C) sz)) 0 0 (va_A (hw K h a S ++ cw K c b C) sz) := by
  refine xw_starti (cc := cX2_perform) (maxL := 5) (by decide) rfl (Nat.le_of_ble_eq_true rfl) ?_
  intro p9 e9 s9 m9 below9 meth9 c9 H locs ls A av9 Q9 hx hb hlocks hml hname hts hown hK hP hD hS hA hsz hend hl
  have hown : s9.vm.findClass RX2 = some m9.cls := hown
  have hl : lv_has ls 5 [(0, .ref h), (1, .ref c)] := hl
  have hi2 : ∀ w ∈ u_ws RX2 TX2 17, w ∈ wsX2_perform := by decide +kernel
  have lk52 := hts (.fieldLink RX2 52 "StandIns$House" "roles" "I") (by decide +kernel)
  have lk62 := hts (.fieldLink RX2 62 "StandIns$House" "performed" "I") (by decide +kernel)
  refine lv_iconst (v := (0 : Int32)) hx hb dX2_perform_0 (by decide) ?_
  refine lv_istore_n (lv' := [(2, .int (0 : Int32)), (0, .ref h), (1, .ref c)]) hx hb dX2_perform_1 rfl hl (by decide) rfl (fun ls hl => ?_)
  refine lv_iconst (v := (0 : Int32)) hx hb dX2_perform_2 (by decide) ?_
  refine lv_istore_n (lv' := [(3, .int (0 : Int32)), (2, .int (0 : Int32)), (0, .ref h), (1, .ref c)]) hx hb dX2_perform_3 rfl hl (by decide) rfl (fun ls hl => ?_)
  have lp4 : ∀ (n9 : Nat) (k : Nat) (H : Heap) (locs : List Loc) (ls : Array Slot), R - k < n9 → (k ≤ R) → va_P K.1 vwCl (hw K h a (hPf S cs k) ++ cw K c b C) H → va_D A (hw K h a (hPf S cs k) ++ cw K c b C) → va_S A s9.heap H locs → lv_has ls 5 [(0, .ref h), (1, .ref c), (2, .int (pdF S cs k)), (3, .int (nI k))] → W p9 l e9 rm_X2_perform s9 m9 av9 below9 meth9 c9 H locs 0 0 Q9 (F0 m9 4 ls []) := by
    intro n9
    induction n9 with
    | zero => intro k H locs ls hmu hk hP hD hS hl; exact absurd hmu (Nat.not_lt_zero _)
    | succ n9 ih4 =>
      intro k H locs ls hmu hk hP hD hS hl
      refine lv_iload_n hx hb dX2_perform_4 rfl (lv_at hl 3 rfl) ?_
      refine lv_aload_n hx hb dX2_perform_5 rfl (lv_at hl 0 rfl) ?_
      refine va_get (ci := 2) (v := .int ((hPf S cs k) 10 0)) (C := RX2) (T := TX2) (N := 17) hx hb hts hi2 hown hK hP 0 rfl rfl 10 (by decide) lk52 (fun _ h9 => h9) rfl dX2_perform_6 ?_
      refine xn_icmp_ge (tgt := 44) hx hb k R rfl (hPf_f cs (by decide) k hR0) (by omega) (by omega) dX2_perform_9 (by decide) (fun c_9 => ?_) (fun c_9 => ?_)
      · skip
        refine lv_aload_n hx hb dX2_perform_44 rfl (lv_at hl 0 rfl) ?_
        refine lv_dup hx hb dX2_perform_45 rfl ?_
        refine va_get (ci := 2) (v := .int ((hPf S cs k) 13 0)) (C := RX2) (T := TX2) (N := 17) hx hb hts hi2 hown hK hP 0 rfl rfl 13 (by decide) lk62 (fun _ h9 => h9) rfl dX2_perform_46 ?_
        refine lv_iconst (v := (1 : Int32)) hx hb dX2_perform_49 (by decide) ?_
        refine lv_iadd hx hb dX2_perform_50 ?_
        refine va_put (ci := 2) (v := .int (((hPf S cs k) 13 0) + (1 : Int32))) (ty := .int) (C := RX2) (T := TX2) (N := 17) hx hb hts hi2 tyX2 tyX2_ok nmX2 hown hK hP hD hS 0 rfl rfl 13 (by decide) lk62 (fun _ h9 => h9) rfl (by decide +kernel) rfl rfl (Nat.le_of_ble_eq_true rfl) dX2_perform_51 (fun H locs hP hD hS => ?_)
        have hP : va_P K.1 vwCl (hw K h a (hput (hPf S cs k) 13 (((hPf S cs k) 13 0) + (1 : Int32))) ++ cw K c b C) H := hP
        have hD : va_D A (hw K h a (hput (hPf S cs k) 13 (((hPf S cs k) 13 0) + (1 : Int32))) ++ cw K c b C) := hD
        refine lv_iload_n hx hb dX2_perform_54 rfl (lv_at hl 2 rfl) ?_
        have eS0 : (hput (hPf S cs k) 13 (((hPf S cs k) 13 0) + (1 : Int32))) = hput (hPf S cs R) 13 (hPf S cs R 13 0 + 1) := by rw [show k = R by omega]
        rw [eS0] at hP hD
        exact hend _ _ _ _ _ _ _ () hP hD hS (Nat.le_of_ble_eq_true rfl) (Nat.le_of_ble_eq_true rfl) (by rw [show k = R by omega]) dX2_perform_55
      · skip
        have hck := (hcs k c_9).2
        refine lv_aload_n hx hb dX2_perform_12 rfl (lv_at hl 1 rfl) ?_
        refine lv_iload_n hx hb dX2_perform_13 rfl (lv_at hl 3 rfl) ?_
        have hPc := P_sub (ws' := cw K c b C) hP [11, 12, 13, 14] rfl
        refine xr_V (As := [.int (nI k)]) (rest := []) ⟨hx, hb, hml, hown, hts⟩ (c_X0_playerOf l K c b C k (by omega) R hC3 (by omega)) (cwV 1 hts gX2_perform_X0_playerOf rfl rfl rfl (by decide +kernel) ⟨Nat.le_of_ble_eq_true rfl, Nat.le_of_ble_eq_true rfl⟩) hK hPc 0 0 rfl rfl rfl rfl hl.1 rfl (Nat.le_of_ble_eq_true rfl) (Nat.le_of_ble_eq_true rfl) (Nat.le_of_ble_eq_true rfl) dX2_perform_14 ?_
        rw [if_pos (show k < R from c_9), (hcs k c_9).1]
        refine lv_istore (lv' := [(4, .int (nI (cs k))), (0, .ref h), (1, .ref c), (2, .int (pdF S cs k)), (3, .int (nI k))]) hx hb dX2_perform_17 hl (by decide) rfl (fun ls hl => ?_)
        refine lv_aload_n hx hb dX2_perform_19 rfl (lv_at hl 1 rfl) ?_
        refine lv_iload hx hb dX2_perform_20 (lv_at hl 0 rfl) ?_
        have hPc := P_sub (ws' := hw K h a (hPf S cs k)) hP [0, 1, 2, 3, 4, 5, 6, 7, 8, 9, 10] rfl
        refine xr_V (As := [.int (nI (cs k))]) (rest := []) ⟨hx, hb, hml, hown, hts⟩ (c_X2_hasPlayer_n l K h a (hPf S cs k) (cs k) (by omega) P (hPf_f cs (by decide) k hP0) (by omega)) (cwV 1 hts gX2_perform_X2_hasPlayer rfl rfl rfl (by decide +kernel) ⟨Nat.le_of_ble_eq_true rfl, Nat.le_of_ble_eq_true rfl⟩) hK hPc 0 2 rfl rfl rfl rfl hl.1 rfl (Nat.le_of_ble_eq_true rfl) (Nat.le_of_ble_eq_true rfl) (Nat.le_of_ble_eq_true rfl) dX2_perform_22 ?_
        refine xb_if_eq (tgt := 38) hx hb dX2_perform_25 (by decide) (fun c_25 => ?_) (fun c_25 => ?_)
        · exact absurd (hcs k c_9).2 c_25
        · skip
          refine lv_iload_n hx hb dX2_perform_28 rfl (lv_at hl 3 rfl) ?_
          refine lv_aload_n hx hb dX2_perform_29 rfl (lv_at hl 1 rfl) ?_
          refine lv_iload_n hx hb dX2_perform_30 rfl (lv_at hl 4 rfl) ?_
          refine lv_iload hx hb dX2_perform_31 (lv_at hl 0 rfl) ?_
          refine xw_Vi (As := [.int (nI k), .int (nI (cs k))]) (rest := [.int (pdF S cs k)]) (wc := hw K h a (hPf S cs k)) (wr := (List.filterMap (fun i => (hw K h a (hPf S cs k) ++ cw K c b C : va_W)[i]?) ([11, 12, 13, 14] : List Nat))) ⟨hx, hb, hml, hown, hts⟩ (c_X2_payFor l K h a (hPf S cs k) k (by omega) (cs k) (by omega) H.size) (cwV 2 hts gX2_perform_X2_payFor rfl rfl rfl (by decide +kernel) ⟨Nat.le_of_ble_eq_true rfl, Nat.le_of_ble_eq_true rfl⟩) hK hP hD hS hA [0, 1, 2, 3, 4, 5, 6, 7, 8, 9, 10] [11, 12, 13, 14] [4, 5, 6, 7, 8, 9, 10, 11, 12, 13, 14, 0, 1, 2, 3] rfl rfl rfl (fun _u => hw K h a (hPay (hPf S cs k) k (cs k)) ++ cw K c b C) (fun _ => rfl) 0 2 rfl rfl rfl rfl hl.1 rfl (Nat.le_of_ble_eq_true rfl) (Nat.le_of_ble_eq_true rfl) (Nat.le_of_ble_eq_true rfl) dX2_perform_33 (fun r33 _ H locs hq33 hP hD hS => ?_)
          have hP : va_P K.1 vwCl (hw K h a (hPay (hPf S cs k) k (cs k)) ++ cw K c b C) H := hP
          have hD : va_D A (hw K h a (hPay (hPf S cs k) k (cs k)) ++ cw K c b C) := hD
          subst hq33
          refine lv_iadd hx hb dX2_perform_36 ?_
          refine lv_istore_n (lv' := [(2, .int ((pdF S cs k) + (pPay (hPf S cs k) k (cs k)))), (4, .int (nI (cs k))), (0, .ref h), (1, .ref c), (3, .int (nI k))]) hx hb dX2_perform_37 rfl hl (by decide) rfl (fun ls hl => ?_)
          refine lv_iinc (v := nI (k + 1)) (lv' := [(3, .int (nI (k + 1))), (2, .int ((pdF S cs k) + (pPay (hPf S cs k) k (cs k)))), (4, .int (nI (cs k))), (0, .ref h), (1, .ref c)]) hx hb dX2_perform_38 hl (k := 4) rfl (nI_1 _) (by decide) rfl (fun ls hl => ?_)
          refine lv_goto (tgt := 4) hx hb dX2_perform_41 (by decide) ?_
          have eS0 : (hPay (hPf S cs k) k (cs k)) = hPf S cs (k + 1) := by rfl
          have hP : va_P K.1 vwCl (hw K h a (hPf S cs (k + 1)) ++ cw K c b C) H := by rw [← eS0]; exact hP
          have hD : va_D A (hw K h a (hPf S cs (k + 1)) ++ cw K c b C) := by rw [← eS0]; exact hD
          exact ih4 (k + 1) _ _ _ (by omega) (by first | omega | assumption | first | rfl | (simp [c_9, c_25]; done) | omega) hP hD hS (lv_cons (lv_at hl 3 rfl) (lv_cons (lv_at hl 4 rfl) (lv_cons (lv_is (lv_at hl 1 rfl) (show (pdF S cs k) + (pPay (hPf S cs k) k (cs k)) = pdF S cs (k + 1) by rfl)) (lv_cons (lv_at hl 0 rfl) (lv_nil hl)))))
  have eS0 : (S) = hPf S cs 0 := by rfl
  have hP : va_P K.1 vwCl (hw K h a (hPf S cs 0) ++ cw K c b C) H := by rw [← eS0]; exact hP
  have hD : va_D A (hw K h a (hPf S cs 0) ++ cw K c b C) := by rw [← eS0]; exact hD
  exact lp4 _ 0 _ _ _ (Nat.lt_succ_self _) (by first | omega | assumption | first | rfl | (simp; done) | omega) hP hD hS (lv_cons (lv_at hl 2 rfl) (lv_cons (lv_at hl 3 rfl) (lv_cons (lv_is (lv_at hl 1 rfl) (show (0 : Int32) = pdF S cs 0 by rfl)) (lv_cons (lv_is (lv_at hl 0 rfl) (show (0 : Int32) = nI 0 by rfl)) (lv_nil hl)))))

abbrev rm_X2_playDay : Room := { frames := 4, cells := 0, slots := 0, locals := 94 }
set_option maxHeartbeats 4000000 in
set_option maxRecDepth 100000 in
theorem c_X2_playDay (l : Launch) (K : KX) (h : Nat) (a : Nat → Nat) (S : HV) (c : Nat) (b : Nat → Nat) (C : HV) (R : Nat) (hR0 : S 10 0 = nI R) (hR0b : R ≤ 6) (P : Nat) (hP0 : S 11 0 = nI P) (hP0b : P ≤ 10) (sz : Nat) : Met l yX2_playDay wsX2_playDay rm_X2_playDay (va_Pc [.ref h, .ref c] (xPre K (hw K h a S ++ cw K c b C) sz)) (va_Qi (fun (r9 : Int32) (u9 : HV) => r9 = hPaid S R P) (fun u9 t => xPost K (va_A (hw K h a S ++ cw K c b C) sz) (hw K h a (hPlay S R P) ++ cw K c b u9) t) (va_A (hw K h a S ++ cw K c b C) sz)) 0 0 (va_A (hw K h a S ++ cw K c b C) sz) := by
  refine xw_starti (cc := cX2_playDay) (maxL := 4) (by decide) rfl (Nat.le_of_ble_eq_true rfl) ?_
  intro p9 e9 s9 m9 below9 meth9 c9 H locs ls A av9 Q9 hx hb hlocks hml hname hts hown hK hP hD hS hA hsz hend hl
  have hown : s9.vm.findClass RX2 = some m9.cls := hown
  have hl : lv_has ls 4 [(0, .ref h), (1, .ref c)] := hl
  have hi2 : ∀ w ∈ u_ws RX2 TX2 17, w ∈ wsX2_playDay := by decide +kernel
  have lk56 := hts (.fieldLink RX2 56 "StandIns$House" "players" "I") (by decide +kernel)
  have lk59 := hts (.fieldLink RX2 59 "StandIns$House" "today" "I") (by decide +kernel)
  have lk71 := hts (.fieldLink RX2 71 "StandIns$House" "posted" "Z") (by decide +kernel)
  have lk30 := hts (.fieldLink RX2 30 "StandIns$House" "rows" "[I") (by decide +kernel)
  have lk65 := hts (.fieldLink RX2 65 "StandIns$House" "calledOff" "I") (by decide +kernel)
  have hfl : frN S P < 1024 := Nat.lt_of_lt_of_le (frN_lt S P) (pw_le hP0b)
  refine lv_iconst (v := (-1 : Int32)) hx hb dX2_playDay_0 (by decide) ?_
  refine lv_istore_n (lv' := [(2, .int (-1 : Int32)), (0, .ref h), (1, .ref c)]) hx hb dX2_playDay_1 rfl hl (by decide) rfl (fun ls hl => ?_)
  refine lv_aload_n hx hb dX2_playDay_2 rfl (lv_at hl 2 rfl) ?_
  refine lv_aload_n hx hb dX2_playDay_3 rfl (lv_at hl 1 rfl) ?_
  refine lv_aload_n hx hb dX2_playDay_4 rfl (lv_at hl 1 rfl) ?_
  have hPc := P_sub (ws' := hw K h a S) hP [0, 1, 2, 3, 4, 5, 6, 7, 8, 9, 10] rfl
  refine xr_V (As := []) (rest := [.ref h, .ref c]) ⟨hx, hb, hml, hown, hts⟩ (c_X2_freePlayers l K h a S P hP0 (by omega)) (cwV 0 hts gX2_playDay_X2_freePlayers rfl rfl rfl (by decide +kernel) ⟨Nat.le_of_ble_eq_true rfl, Nat.le_of_ble_eq_true rfl⟩) hK hPc 0 2 rfl rfl rfl rfl hl.1 rfl (Nat.le_of_ble_eq_true rfl) (Nat.le_of_ble_eq_true rfl) (Nat.le_of_ble_eq_true rfl) dX2_playDay_5 ?_
  refine xw_Vi (As := [.ref h, .int (nI (frN S P))]) (rest := []) (wc := cw K c b C ++ hw K h a S) (wr := (List.filterMap (fun i => (hw K h a S ++ cw K c b C : va_W)[i]?) ([] : List Nat))) ⟨hx, hb, hml, hown, hts⟩ (c_X0_seek l K c b C h a S (frN S P) (by omega) R hR0 (by omega) P hP0 (by omega) H.size) (cwV 2 hts gX2_playDay_X0_seek rfl rfl rfl (by decide +kernel) ⟨Nat.le_of_ble_eq_true rfl, Nat.le_of_ble_eq_true rfl⟩) hK hP hD hS hA [11, 12, 13, 14, 0, 1, 2, 3, 4, 5, 6, 7, 8, 9, 10] [] [4, 5, 6, 7, 8, 9, 10, 11, 12, 13, 14, 0, 1, 2, 3] rfl rfl rfl (fun C8 => hw K h a S ++ cw K c b C8) (fun _ => rfl) 0 0 rfl rfl rfl rfl hl.1 rfl (Nat.le_of_ble_eq_true rfl) (Nat.le_of_ble_eq_true rfl) (Nat.le_of_ble_eq_true rfl) dX2_playDay_8 (fun r8 C8 H locs hq8 hP hD hS => ?_)
  have hP : va_P K.1 vwCl (hw K h a S ++ cw K c b C8) H := hP
  have hD : va_D A (hw K h a S ++ cw K c b C8) := hD
  obtain ⟨rfl, hC8⟩ := hq8
  refine lv_iconst (v := (-1 : Int32)) hx hb dX2_playDay_11 (by decide) ?_
  refine lv_icmp_ne (tgt := 28) hx hb dX2_playDay_12 (by decide) (fun c_12 => ?_) (fun c_12 => ?_)
  · skip
    refine lv_aload_n hx hb dX2_playDay_28 rfl (lv_at hl 1 rfl) ?_
    refine lv_aload_n hx hb dX2_playDay_29 rfl (lv_at hl 2 rfl) ?_
    refine xw_Vi (As := [.ref c]) (rest := []) (wc := hw K h a S ++ cw K c b C8) (wr := (List.filterMap (fun i => (hw K h a S ++ cw K c b C8 : va_W)[i]?) ([] : List Nat))) ⟨hx, hb, hml, hown, hts⟩ (c_X2_perform l K h a S c b C8 (pkw S R P) R hR0 (by omega) P hP0 (by omega) hC8.1 (cast_of hP0b hC8 c_12) H.size) (cwV 1 hts gX2_playDay_X2_perform rfl rfl rfl (by decide +kernel) ⟨Nat.le_of_ble_eq_true rfl, Nat.le_of_ble_eq_true rfl⟩) hK hP hD hS hA [0, 1, 2, 3, 4, 5, 6, 7, 8, 9, 10, 11, 12, 13, 14] [] [0, 1, 2, 3, 4, 5, 6, 7, 8, 9, 10, 11, 12, 13, 14] rfl rfl rfl (fun _u => hw K h a (hput (hPf S (pkw S R P) R) 13 (hPf S (pkw S R P) R 13 0 + 1)) ++ cw K c b C8) (fun _ => rfl) 0 2 rfl rfl rfl rfl hl.1 rfl (Nat.le_of_ble_eq_true rfl) (Nat.le_of_ble_eq_true rfl) (Nat.le_of_ble_eq_true rfl) dX2_playDay_30 (fun r30 _ H locs hq30 hP hD hS => ?_)
    have hP : va_P K.1 vwCl (hw K h a (hput (hPf S (pkw S R P) R) 13 (hPf S (pkw S R P) R 13 0 + 1)) ++ cw K c b C8) H := hP
    have hD : va_D A (hw K h a (hput (hPf S (pkw S R P) R) 13 (hPf S (pkw S R P) R 13 0 + 1)) ++ cw K c b C8) := hD
    subst hq30
    refine lv_istore_n (lv' := [(2, .int (pdF S (pkw S R P) R)), (0, .ref h), (1, .ref c)]) hx hb dX2_playDay_33 rfl hl (by decide) rfl (fun ls hl => ?_)
    refine lv_iconst (v := (0 : Int32)) hx hb dX2_playDay_34 (by decide) ?_
    refine lv_istore_n (lv' := [(3, .int (0 : Int32)), (2, .int (pdF S (pkw S R P) R)), (0, .ref h), (1, .ref c)]) hx hb dX2_playDay_35 rfl hl (by decide) rfl (fun ls hl => ?_)
    have lp36 : ∀ (n9 : Nat) (k : Nat) (H : Heap) (locs : List Loc) (ls : Array Slot), P - k < n9 → (k ≤ P) → va_P K.1 vwCl (hw K h a (hrow (hput (hPf S (pkw S R P) R) 13 (hPf S (pkw S R P) R 13 0 + 1)) 6 (rwF ((hPf S (pkw S R P) R) 6) C8 R k)) ++ cw K c b C8) H → va_D A (hw K h a (hrow (hput (hPf S (pkw S R P) R) 13 (hPf S (pkw S R P) R 13 0 + 1)) 6 (rwF ((hPf S (pkw S R P) R) 6) C8 R k)) ++ cw K c b C8) → va_S A s9.heap H locs → lv_has ls 4 [(0, .ref h), (1, .ref c), (2, .int (pdF S (pkw S R P) R)), (3, .int (nI k))] → W p9 l e9 rm_X2_playDay s9 m9 av9 below9 meth9 c9 H locs 0 0 Q9 (F0 m9 36 ls []) := by
      intro n9
      induction n9 with
      | zero => intro k H locs ls hmu hk hP hD hS hl; exact absurd hmu (Nat.not_lt_zero _)
      | succ n9 ih36 =>
        intro k H locs ls hmu hk hP hD hS hl
        refine lv_iload_n hx hb dX2_playDay_36 rfl (lv_at hl 3 rfl) ?_
        refine lv_aload_n hx hb dX2_playDay_37 rfl (lv_at hl 0 rfl) ?_
        refine va_get (ci := 2) (v := .int ((hPf S (pkw S R P) R) 11 0)) (C := RX2) (T := TX2) (N := 17) hx hb hts hi2 hown hK hP 0 rfl rfl 11 (by decide) lk56 (fun _ h9 => h9) rfl dX2_playDay_38 ?_
        refine xn_icmp_ge (tgt := 77) hx hb k P rfl (hPf_f (pkw S R P) (by decide) R hP0) (by omega) (by omega) dX2_playDay_41 (by decide) (fun c_41 => ?_) (fun c_41 => ?_)
        · skip
          refine lv_aload_n hx hb dX2_playDay_77 rfl (lv_at hl 0 rfl) ?_
          refine lv_dup hx hb dX2_playDay_78 rfl ?_
          refine va_get (ci := 2) (v := .int ((hPf S (pkw S R P) R) 12 0)) (C := RX2) (T := TX2) (N := 17) hx hb hts hi2 hown hK hP 0 rfl rfl 12 (by decide) lk59 (fun _ h9 => h9) rfl dX2_playDay_79 ?_
          refine lv_iconst (v := (1 : Int32)) hx hb dX2_playDay_82 (by decide) ?_
          refine lv_iadd hx hb dX2_playDay_83 ?_
          refine va_put (ci := 2) (v := .int (((hPf S (pkw S R P) R) 12 0) + (1 : Int32))) (ty := .int) (C := RX2) (T := TX2) (N := 17) hx hb hts hi2 tyX2 tyX2_ok nmX2 hown hK hP hD hS 0 rfl rfl 12 (by decide) lk59 (fun _ h9 => h9) rfl (by decide +kernel) rfl rfl (Nat.le_of_ble_eq_true rfl) dX2_playDay_84 (fun H locs hP hD hS => ?_)
          have hP : va_P K.1 vwCl (hw K h a (hput (hrow (hput (hPf S (pkw S R P) R) 13 (hPf S (pkw S R P) R 13 0 + 1)) 6 (rwF ((hPf S (pkw S R P) R) 6) C8 R k)) 12 (((hPf S (pkw S R P) R) 12 0) + (1 : Int32))) ++ cw K c b C8) H := hP
          have hD : va_D A (hw K h a (hput (hrow (hput (hPf S (pkw S R P) R) 13 (hPf S (pkw S R P) R 13 0 + 1)) 6 (rwF ((hPf S (pkw S R P) R) 6) C8 R k)) 12 (((hPf S (pkw S R P) R) 12 0) + (1 : Int32))) ++ cw K c b C8) := hD
          refine lv_aload_n hx hb dX2_playDay_87 rfl (lv_at hl 0 rfl) ?_
          refine lv_iconst (v := (0 : Int32)) hx hb dX2_playDay_88 (by decide) ?_
          refine va_put (ci := 2) (v := .int (0 : Int32)) (ty := .boolean) (C := RX2) (T := TX2) (N := 17) hx hb hts hi2 tyX2 tyX2_ok nmX2 hown hK hP hD hS 0 rfl rfl 16 (by decide) lk71 (fun _ h9 => h9) rfl (by decide +kernel) rfl rfl (Nat.le_of_ble_eq_true rfl) dX2_playDay_89 (fun H locs hP hD hS => ?_)
          have hP : va_P K.1 vwCl (hw K h a (hput (hput (hrow (hput (hPf S (pkw S R P) R) 13 (hPf S (pkw S R P) R 13 0 + 1)) 6 (rwF ((hPf S (pkw S R P) R) 6) C8 R k)) 12 (((hPf S (pkw S R P) R) 12 0) + (1 : Int32))) 16 (0 : Int32)) ++ cw K c b C8) H := hP
          have hD : va_D A (hw K h a (hput (hput (hrow (hput (hPf S (pkw S R P) R) 13 (hPf S (pkw S R P) R 13 0 + 1)) 6 (rwF ((hPf S (pkw S R P) R) 6) C8 R k)) 12 (((hPf S (pkw S R P) R) 12 0) + (1 : Int32))) 16 (0 : Int32)) ++ cw K c b C8) := hD
          refine lv_iload_n hx hb dX2_playDay_92 rfl (lv_at hl 2 rfl) ?_
          have eS0 : (hput (hput (hrow (hput (hPf S (pkw S R P) R) 13 (hPf S (pkw S R P) R 13 0 + 1)) 6 (rwF ((hPf S (pkw S R P) R) 6) C8 R k)) 12 (((hPf S (pkw S R P) R) 12 0) + (1 : Int32))) 16 (0 : Int32)) = hPlay S R P := by (rw [show k = P by omega]; first | (simp only [hPlay, if_pos c_12, rw_S hC8]; done) | (simp only [hPlay, if_neg c_12]; rw [hPf_keep S _ 6 (by decide) R, rw_S hC8, hPf_keep S _ 12 (by decide) R]; done))
          rw [eS0] at hP hD
          exact hend _ _ _ _ _ _ _ C8 hP hD hS (Nat.le_of_ble_eq_true rfl) (Nat.le_of_ble_eq_true rfl) (by first | exact (if_pos c_12).symm | exact (if_neg c_12).symm) dX2_playDay_93
        · skip
          refine lv_aload_n hx hb dX2_playDay_44 rfl (lv_at hl 0 rfl) ?_
          refine va_get (ci := 2) (v := .ref (a 6)) (C := RX2) (T := TX2) (N := 17) hx hb hts hi2 hown hK hP 0 rfl rfl 6 (by decide) lk30 (fun _ h9 => h9) rfl dX2_playDay_45 ?_
          refine lv_iload_n hx hb dX2_playDay_48 rfl (lv_at hl 3 rfl) ?_
          refine lv_aload_n hx hb dX2_playDay_49 rfl (lv_at hl 1 rfl) ?_
          refine lv_iload_n hx hb dX2_playDay_50 rfl (lv_at hl 3 rfl) ?_
          have hPc := P_sub (ws' := cw K c b C8) hP [11, 12, 13, 14] rfl
          refine xr_V (As := [.int (nI k)]) (rest := [.int (nI k), .ref (a 6)]) ⟨hx, hb, hml, hown, hts⟩ (c_X0_roleOf l K c b C8 (nI k) R hC8.1 (by omega)) (cwV 1 hts gX2_playDay_X0_roleOf rfl rfl rfl (by decide +kernel) ⟨Nat.le_of_ble_eq_true rfl, Nat.le_of_ble_eq_true rfl⟩) hK hPc 0 0 rfl rfl rfl rfl hl.1 rfl (Nat.le_of_ble_eq_true rfl) (Nat.le_of_ble_eq_true rfl) (Nat.le_of_ble_eq_true rfl) dX2_playDay_51 ?_
          refine lv_iconst (v := (-1 : Int32)) hx hb dX2_playDay_54 (by decide) ?_
          refine lv_icmp_ne (tgt := 62) hx hb dX2_playDay_55 (by decide) (fun c_55 => ?_) (fun c_55 => ?_)
          · skip
            refine lv_aload_n hx hb dX2_playDay_62 rfl (lv_at hl 0 rfl) ?_
            refine va_get (ci := 2) (v := .ref (a 6)) (C := RX2) (T := TX2) (N := 17) hx hb hts hi2 hown hK hP 0 rfl rfl 6 (by decide) lk30 (fun _ h9 => h9) rfl dX2_playDay_63 ?_
            refine lv_iload_n hx hb dX2_playDay_66 rfl (lv_at hl 3 rfl) ?_
            refine xi_ld hx hb hK hP 7 (f := (rwF ((hPf S (pkw S R P) R) 6) C8 R k)) rfl k rfl (by omega) (by decide) dX2_playDay_67 ?_
            refine lv_iconst (v := (1 : Int32)) hx hb dX2_playDay_68 (by decide) ?_
            refine lv_iadd hx hb dX2_playDay_69 ?_
            refine xi_st hx hb hK hP hD hS 7 (f := (rwF ((hPf S (pkw S R P) R) 6) C8 R k)) rfl k rfl (by omega) (by decide) (hw K h a (hset (hrow (hput (hPf S (pkw S R P) R) 13 (hPf S (pkw S R P) R 13 0 + 1)) 6 (rwF ((hPf S (pkw S R P) R) 6) C8 R k)) 6 k (((rwF ((hPf S (pkw S R P) R) 6) C8 R k) k) + (1 : Int32))) ++ cw K c b C8) rfl dX2_playDay_70 (fun H locs hP hD hS => ?_)
            refine lv_iinc (v := nI (k + 1)) (lv' := [(3, .int (nI (k + 1))), (0, .ref h), (1, .ref c), (2, .int (pdF S (pkw S R P) R))]) hx hb dX2_playDay_71 hl (k := 3) rfl (nI_1 _) (by decide) rfl (fun ls hl => ?_)
            refine lv_goto (tgt := 36) hx hb dX2_playDay_74 (by decide) ?_
            have eS0 : (hset (hrow (hput (hPf S (pkw S R P) R) 13 (hPf S (pkw S R P) R 13 0 + 1)) 6 (rwF ((hPf S (pkw S R P) R) 6) C8 R k)) 6 k (((rwF ((hPf S (pkw S R P) R) 6) C8 R k) k) + (1 : Int32))) = hrow (hput (hPf S (pkw S R P) R) 13 (hPf S (pkw S R P) R 13 0 + 1)) 6 (rwF ((hPf S (pkw S R P) R) 6) C8 R (k + 1)) := by first | exact rw_s _ _ _ _ _ (by rw [if_pos c_55]) | exact rw_s _ _ _ _ _ (by rw [if_neg c_55, rw_k])
            have hP : va_P K.1 vwCl (hw K h a (hrow (hput (hPf S (pkw S R P) R) 13 (hPf S (pkw S R P) R 13 0 + 1)) 6 (rwF ((hPf S (pkw S R P) R) 6) C8 R (k + 1))) ++ cw K c b C8) H := by rw [← eS0]; exact hP
            have hD : va_D A (hw K h a (hrow (hput (hPf S (pkw S R P) R) 13 (hPf S (pkw S R P) R 13 0 + 1)) 6 (rwF ((hPf S (pkw S R P) R) 6) C8 R (k + 1))) ++ cw K c b C8) := by rw [← eS0]; exact hD
            exact ih36 (k + 1) _ _ _ (by omega) (by first | omega | assumption | first | rfl | (simp [c_12, c_41, c_55]; done) | omega) hP hD hS (lv_cons (lv_at hl 1 rfl) (lv_cons (lv_at hl 2 rfl) (lv_cons (lv_at hl 3 rfl) (lv_cons (lv_at hl 0 rfl) (lv_nil hl)))))
          · skip
            refine lv_iconst (v := (0 : Int32)) hx hb dX2_playDay_58 (by decide) ?_
            refine lv_goto (tgt := 70) hx hb dX2_playDay_59 (by decide) ?_
            refine xi_st hx hb hK hP hD hS 7 (f := (rwF ((hPf S (pkw S R P) R) 6) C8 R k)) rfl k rfl (by omega) (by decide) (hw K h a (hset (hrow (hput (hPf S (pkw S R P) R) 13 (hPf S (pkw S R P) R 13 0 + 1)) 6 (rwF ((hPf S (pkw S R P) R) 6) C8 R k)) 6 k (0 : Int32)) ++ cw K c b C8) rfl dX2_playDay_70 (fun H locs hP hD hS => ?_)
            refine lv_iinc (v := nI (k + 1)) (lv' := [(3, .int (nI (k + 1))), (0, .ref h), (1, .ref c), (2, .int (pdF S (pkw S R P) R))]) hx hb dX2_playDay_71 hl (k := 3) rfl (nI_1 _) (by decide) rfl (fun ls hl => ?_)
            refine lv_goto (tgt := 36) hx hb dX2_playDay_74 (by decide) ?_
            have eS0 : (hset (hrow (hput (hPf S (pkw S R P) R) 13 (hPf S (pkw S R P) R 13 0 + 1)) 6 (rwF ((hPf S (pkw S R P) R) 6) C8 R k)) 6 k (0 : Int32)) = hrow (hput (hPf S (pkw S R P) R) 13 (hPf S (pkw S R P) R 13 0 + 1)) 6 (rwF ((hPf S (pkw S R P) R) 6) C8 R (k + 1)) := by first | exact rw_s _ _ _ _ _ (by rw [if_pos c_55]) | exact rw_s _ _ _ _ _ (by rw [if_neg c_55, rw_k])
            have hP : va_P K.1 vwCl (hw K h a (hrow (hput (hPf S (pkw S R P) R) 13 (hPf S (pkw S R P) R 13 0 + 1)) 6 (rwF ((hPf S (pkw S R P) R) 6) C8 R (k + 1))) ++ cw K c b C8) H := by rw [← eS0]; exact hP
            have hD : va_D A (hw K h a (hrow (hput (hPf S (pkw S R P) R) 13 (hPf S (pkw S R P) R 13 0 + 1)) 6 (rwF ((hPf S (pkw S R P) R) 6) C8 R (k + 1))) ++ cw K c b C8) := by rw [← eS0]; exact hD
            exact ih36 (k + 1) _ _ _ (by omega) (by first | omega | assumption | first | rfl | (simp [c_12, c_41, c_55]; done) | omega) hP hD hS (lv_cons (lv_at hl 1 rfl) (lv_cons (lv_at hl 2 rfl) (lv_cons (lv_at hl 3 rfl) (lv_cons (lv_at hl 0 rfl) (lv_nil hl)))))
    have eS0 : (hput (hPf S (pkw S R P) R) 13 (hPf S (pkw S R P) R 13 0 + 1)) = hrow (hput (hPf S (pkw S R P) R) 13 (hPf S (pkw S R P) R 13 0 + 1)) 6 (rwF ((hPf S (pkw S R P) R) 6) C8 R 0) := by exact rw_e _ _ _
    have hP : va_P K.1 vwCl (hw K h a (hrow (hput (hPf S (pkw S R P) R) 13 (hPf S (pkw S R P) R 13 0 + 1)) 6 (rwF ((hPf S (pkw S R P) R) 6) C8 R 0)) ++ cw K c b C8) H := by rw [← eS0]; exact hP
    have hD : va_D A (hw K h a (hrow (hput (hPf S (pkw S R P) R) 13 (hPf S (pkw S R P) R 13 0 + 1)) 6 (rwF ((hPf S (pkw S R P) R) 6) C8 R 0)) ++ cw K c b C8) := by rw [← eS0]; exact hD
    exact lp36 _ 0 _ _ _ (Nat.lt_succ_self _) (by first | omega | assumption | first | rfl | (simp [c_12]; done) | omega) hP hD hS (lv_cons (lv_at hl 2 rfl) (lv_cons (lv_at hl 3 rfl) (lv_cons (lv_at hl 1 rfl) (lv_cons (lv_is (lv_at hl 0 rfl) (show (0 : Int32) = nI 0 by first | rfl | (simp [c_12]; done) | omega)) (lv_nil hl)))))
  · skip
    refine lv_aload_n hx hb dX2_playDay_15 rfl (lv_at hl 1 rfl) ?_
    refine lv_dup hx hb dX2_playDay_16 rfl ?_
    refine va_get (ci := 2) (v := .int (S 14 0)) (C := RX2) (T := TX2) (N := 17) hx hb hts hi2 hown hK hP 0 rfl rfl 14 (by decide) lk65 (fun _ h9 => h9) rfl dX2_playDay_17 ?_
    refine lv_iconst (v := (1 : Int32)) hx hb dX2_playDay_20 (by decide) ?_
    refine lv_iadd hx hb dX2_playDay_21 ?_
    refine va_put (ci := 2) (v := .int ((S 14 0) + (1 : Int32))) (ty := .int) (C := RX2) (T := TX2) (N := 17) hx hb hts hi2 tyX2 tyX2_ok nmX2 hown hK hP hD hS 0 rfl rfl 14 (by decide) lk65 (fun _ h9 => h9) rfl (by decide +kernel) rfl rfl (Nat.le_of_ble_eq_true rfl) dX2_playDay_22 (fun H locs hP hD hS => ?_)
    have hP : va_P K.1 vwCl (hw K h a (hput S 14 ((S 14 0) + (1 : Int32))) ++ cw K c b C8) H := hP
    have hD : va_D A (hw K h a (hput S 14 ((S 14 0) + (1 : Int32))) ++ cw K c b C8) := hD
    refine lv_goto (tgt := 34) hx hb dX2_playDay_25 (by decide) ?_
    refine lv_iconst (v := (0 : Int32)) hx hb dX2_playDay_34 (by decide) ?_
    refine lv_istore_n (lv' := [(3, .int (0 : Int32)), (2, .int (-1 : Int32)), (0, .ref h), (1, .ref c)]) hx hb dX2_playDay_35 rfl hl (by decide) rfl (fun ls hl => ?_)
    have lp36 : ∀ (n9 : Nat) (k : Nat) (H : Heap) (locs : List Loc) (ls : Array Slot), P - k < n9 → (k ≤ P) → va_P K.1 vwCl (hw K h a (hrow (hput S 14 ((S 14 0) + (1 : Int32))) 6 (rwF (S 6) C8 R k)) ++ cw K c b C8) H → va_D A (hw K h a (hrow (hput S 14 ((S 14 0) + (1 : Int32))) 6 (rwF (S 6) C8 R k)) ++ cw K c b C8) → va_S A s9.heap H locs → lv_has ls 4 [(0, .ref h), (1, .ref c), (2, .int (-1 : Int32)), (3, .int (nI k))] → W p9 l e9 rm_X2_playDay s9 m9 av9 below9 meth9 c9 H locs 0 0 Q9 (F0 m9 36 ls []) := by
      intro n9
      induction n9 with
      | zero => intro k H locs ls hmu hk hP hD hS hl; exact absurd hmu (Nat.not_lt_zero _)
      | succ n9 ih36 =>
        intro k H locs ls hmu hk hP hD hS hl
        refine lv_iload_n hx hb dX2_playDay_36 rfl (lv_at hl 3 rfl) ?_
        refine lv_aload_n hx hb dX2_playDay_37 rfl (lv_at hl 0 rfl) ?_
        refine va_get (ci := 2) (v := .int (S 11 0)) (C := RX2) (T := TX2) (N := 17) hx hb hts hi2 hown hK hP 0 rfl rfl 11 (by decide) lk56 (fun _ h9 => h9) rfl dX2_playDay_38 ?_
        refine xn_icmp_ge (tgt := 77) hx hb k P rfl hP0 (by omega) (by omega) dX2_playDay_41 (by decide) (fun c_41 => ?_) (fun c_41 => ?_)
        · skip
          refine lv_aload_n hx hb dX2_playDay_77 rfl (lv_at hl 0 rfl) ?_
          refine lv_dup hx hb dX2_playDay_78 rfl ?_
          refine va_get (ci := 2) (v := .int (S 12 0)) (C := RX2) (T := TX2) (N := 17) hx hb hts hi2 hown hK hP 0 rfl rfl 12 (by decide) lk59 (fun _ h9 => h9) rfl dX2_playDay_79 ?_
          refine lv_iconst (v := (1 : Int32)) hx hb dX2_playDay_82 (by decide) ?_
          refine lv_iadd hx hb dX2_playDay_83 ?_
          refine va_put (ci := 2) (v := .int ((S 12 0) + (1 : Int32))) (ty := .int) (C := RX2) (T := TX2) (N := 17) hx hb hts hi2 tyX2 tyX2_ok nmX2 hown hK hP hD hS 0 rfl rfl 12 (by decide) lk59 (fun _ h9 => h9) rfl (by decide +kernel) rfl rfl (Nat.le_of_ble_eq_true rfl) dX2_playDay_84 (fun H locs hP hD hS => ?_)
          have hP : va_P K.1 vwCl (hw K h a (hput (hrow (hput S 14 ((S 14 0) + (1 : Int32))) 6 (rwF (S 6) C8 R k)) 12 ((S 12 0) + (1 : Int32))) ++ cw K c b C8) H := hP
          have hD : va_D A (hw K h a (hput (hrow (hput S 14 ((S 14 0) + (1 : Int32))) 6 (rwF (S 6) C8 R k)) 12 ((S 12 0) + (1 : Int32))) ++ cw K c b C8) := hD
          refine lv_aload_n hx hb dX2_playDay_87 rfl (lv_at hl 0 rfl) ?_
          refine lv_iconst (v := (0 : Int32)) hx hb dX2_playDay_88 (by decide) ?_
          refine va_put (ci := 2) (v := .int (0 : Int32)) (ty := .boolean) (C := RX2) (T := TX2) (N := 17) hx hb hts hi2 tyX2 tyX2_ok nmX2 hown hK hP hD hS 0 rfl rfl 16 (by decide) lk71 (fun _ h9 => h9) rfl (by decide +kernel) rfl rfl (Nat.le_of_ble_eq_true rfl) dX2_playDay_89 (fun H locs hP hD hS => ?_)
          have hP : va_P K.1 vwCl (hw K h a (hput (hput (hrow (hput S 14 ((S 14 0) + (1 : Int32))) 6 (rwF (S 6) C8 R k)) 12 ((S 12 0) + (1 : Int32))) 16 (0 : Int32)) ++ cw K c b C8) H := hP
          have hD : va_D A (hw K h a (hput (hput (hrow (hput S 14 ((S 14 0) + (1 : Int32))) 6 (rwF (S 6) C8 R k)) 12 ((S 12 0) + (1 : Int32))) 16 (0 : Int32)) ++ cw K c b C8) := hD
          refine lv_iload_n hx hb dX2_playDay_92 rfl (lv_at hl 2 rfl) ?_
          have eS0 : (hput (hput (hrow (hput S 14 ((S 14 0) + (1 : Int32))) 6 (rwF (S 6) C8 R k)) 12 ((S 12 0) + (1 : Int32))) 16 (0 : Int32)) = hPlay S R P := by (rw [show k = P by omega]; first | (simp only [hPlay, if_pos c_12, rw_S hC8]; done) | (simp only [hPlay, if_neg c_12]; rw [hPf_keep S _ 6 (by decide) R, rw_S hC8, hPf_keep S _ 12 (by decide) R]; done))
          rw [eS0] at hP hD
          exact hend _ _ _ _ _ _ _ C8 hP hD hS (Nat.le_of_ble_eq_true rfl) (Nat.le_of_ble_eq_true rfl) (by first | exact (if_pos c_12).symm | exact (if_neg c_12).symm) dX2_playDay_93
        · skip
          refine lv_aload_n hx hb dX2_playDay_44 rfl (lv_at hl 0 rfl) ?_
          refine va_get (ci := 2) (v := .ref (a 6)) (C := RX2) (T := TX2) (N := 17) hx hb hts hi2 hown hK hP 0 rfl rfl 6 (by decide) lk30 (fun _ h9 => h9) rfl dX2_playDay_45 ?_
          refine lv_iload_n hx hb dX2_playDay_48 rfl (lv_at hl 3 rfl) ?_
          refine lv_aload_n hx hb dX2_playDay_49 rfl (lv_at hl 1 rfl) ?_
          refine lv_iload_n hx hb dX2_playDay_50 rfl (lv_at hl 3 rfl) ?_
          have hPc := P_sub (ws' := cw K c b C8) hP [11, 12, 13, 14] rfl
          refine xr_V (As := [.int (nI k)]) (rest := [.int (nI k), .ref (a 6)]) ⟨hx, hb, hml, hown, hts⟩ (c_X0_roleOf l K c b C8 (nI k) R hC8.1 (by omega)) (cwV 1 hts gX2_playDay_X0_roleOf rfl rfl rfl (by decide +kernel) ⟨Nat.le_of_ble_eq_true rfl, Nat.le_of_ble_eq_true rfl⟩) hK hPc 0 0 rfl rfl rfl rfl hl.1 rfl (Nat.le_of_ble_eq_true rfl) (Nat.le_of_ble_eq_true rfl) (Nat.le_of_ble_eq_true rfl) dX2_playDay_51 ?_
          refine lv_iconst (v := (-1 : Int32)) hx hb dX2_playDay_54 (by decide) ?_
          refine lv_icmp_ne (tgt := 62) hx hb dX2_playDay_55 (by decide) (fun c_55 => ?_) (fun c_55 => ?_)
          · skip
            refine lv_aload_n hx hb dX2_playDay_62 rfl (lv_at hl 0 rfl) ?_
            refine va_get (ci := 2) (v := .ref (a 6)) (C := RX2) (T := TX2) (N := 17) hx hb hts hi2 hown hK hP 0 rfl rfl 6 (by decide) lk30 (fun _ h9 => h9) rfl dX2_playDay_63 ?_
            refine lv_iload_n hx hb dX2_playDay_66 rfl (lv_at hl 3 rfl) ?_
            refine xi_ld hx hb hK hP 7 (f := (rwF (S 6) C8 R k)) rfl k rfl (by omega) (by decide) dX2_playDay_67 ?_
            refine lv_iconst (v := (1 : Int32)) hx hb dX2_playDay_68 (by decide) ?_
            refine lv_iadd hx hb dX2_playDay_69 ?_
            refine xi_st hx hb hK hP hD hS 7 (f := (rwF (S 6) C8 R k)) rfl k rfl (by omega) (by decide) (hw K h a (hset (hrow (hput S 14 ((S 14 0) + (1 : Int32))) 6 (rwF (S 6) C8 R k)) 6 k (((rwF (S 6) C8 R k) k) + (1 : Int32))) ++ cw K c b C8) rfl dX2_playDay_70 (fun H locs hP hD hS => ?_)
            refine lv_iinc (v := nI (k + 1)) (lv' := [(3, .int (nI (k + 1))), (0, .ref h), (1, .ref c), (2, .int (-1 : Int32))]) hx hb dX2_playDay_71 hl (k := 3) rfl (nI_1 _) (by decide) rfl (fun ls hl => ?_)
            refine lv_goto (tgt := 36) hx hb dX2_playDay_74 (by decide) ?_
            have eS0 : (hset (hrow (hput S 14 ((S 14 0) + (1 : Int32))) 6 (rwF (S 6) C8 R k)) 6 k (((rwF (S 6) C8 R k) k) + (1 : Int32))) = hrow (hput S 14 ((S 14 0) + (1 : Int32))) 6 (rwF (S 6) C8 R (k + 1)) := by first | exact rw_s _ _ _ _ _ (by rw [if_pos c_55]) | exact rw_s _ _ _ _ _ (by rw [if_neg c_55, rw_k])
            have hP : va_P K.1 vwCl (hw K h a (hrow (hput S 14 ((S 14 0) + (1 : Int32))) 6 (rwF (S 6) C8 R (k + 1))) ++ cw K c b C8) H := by rw [← eS0]; exact hP
            have hD : va_D A (hw K h a (hrow (hput S 14 ((S 14 0) + (1 : Int32))) 6 (rwF (S 6) C8 R (k + 1))) ++ cw K c b C8) := by rw [← eS0]; exact hD
            exact ih36 (k + 1) _ _ _ (by omega) (by first | omega | assumption | first | rfl | (simp [c_12, c_41, c_55]; done) | omega) hP hD hS (lv_cons (lv_at hl 1 rfl) (lv_cons (lv_at hl 2 rfl) (lv_cons (lv_at hl 3 rfl) (lv_cons (lv_at hl 0 rfl) (lv_nil hl)))))
          · skip
            refine lv_iconst (v := (0 : Int32)) hx hb dX2_playDay_58 (by decide) ?_
            refine lv_goto (tgt := 70) hx hb dX2_playDay_59 (by decide) ?_
            refine xi_st hx hb hK hP hD hS 7 (f := (rwF (S 6) C8 R k)) rfl k rfl (by omega) (by decide) (hw K h a (hset (hrow (hput S 14 ((S 14 0) + (1 : Int32))) 6 (rwF (S 6) C8 R k)) 6 k (0 : Int32)) ++ cw K c b C8) rfl dX2_playDay_70 (fun H locs hP hD hS => ?_)
            refine lv_iinc (v := nI (k + 1)) (lv' := [(3, .int (nI (k + 1))), (0, .ref h), (1, .ref c), (2, .int (-1 : Int32))]) hx hb dX2_playDay_71 hl (k := 3) rfl (nI_1 _) (by decide) rfl (fun ls hl => ?_)
            refine lv_goto (tgt := 36) hx hb dX2_playDay_74 (by decide) ?_
            have eS0 : (hset (hrow (hput S 14 ((S 14 0) + (1 : Int32))) 6 (rwF (S 6) C8 R k)) 6 k (0 : Int32)) = hrow (hput S 14 ((S 14 0) + (1 : Int32))) 6 (rwF (S 6) C8 R (k + 1)) := by first | exact rw_s _ _ _ _ _ (by rw [if_pos c_55]) | exact rw_s _ _ _ _ _ (by rw [if_neg c_55, rw_k])
            have hP : va_P K.1 vwCl (hw K h a (hrow (hput S 14 ((S 14 0) + (1 : Int32))) 6 (rwF (S 6) C8 R (k + 1))) ++ cw K c b C8) H := by rw [← eS0]; exact hP
            have hD : va_D A (hw K h a (hrow (hput S 14 ((S 14 0) + (1 : Int32))) 6 (rwF (S 6) C8 R (k + 1))) ++ cw K c b C8) := by rw [← eS0]; exact hD
            exact ih36 (k + 1) _ _ _ (by omega) (by first | omega | assumption | first | rfl | (simp [c_12, c_41, c_55]; done) | omega) hP hD hS (lv_cons (lv_at hl 1 rfl) (lv_cons (lv_at hl 2 rfl) (lv_cons (lv_at hl 3 rfl) (lv_cons (lv_at hl 0 rfl) (lv_nil hl)))))
    have eS0 : (hput S 14 ((S 14 0) + (1 : Int32))) = hrow (hput S 14 ((S 14 0) + (1 : Int32))) 6 (rwF (S 6) C8 R 0) := by exact rw_e _ _ _
    have hP : va_P K.1 vwCl (hw K h a (hrow (hput S 14 ((S 14 0) + (1 : Int32))) 6 (rwF (S 6) C8 R 0)) ++ cw K c b C8) H := by rw [← eS0]; exact hP
    have hD : va_D A (hw K h a (hrow (hput S 14 ((S 14 0) + (1 : Int32))) 6 (rwF (S 6) C8 R 0)) ++ cw K c b C8) := by rw [← eS0]; exact hD
    exact lp36 _ 0 _ _ _ (Nat.lt_succ_self _) (by first | omega | assumption | first | rfl | (simp [c_12]; done) | omega) hP hD hS (lv_cons (lv_at hl 2 rfl) (lv_cons (lv_at hl 3 rfl) (lv_cons (lv_at hl 1 rfl) (lv_cons (lv_is (lv_at hl 0 rfl) (show (0 : Int32) = nI 0 by first | rfl | (simp [c_12]; done) | omega)) (lv_nil hl)))))

abbrev rm_X2_postCast : Room := { frames := 4, cells := 0, slots := 0, locals := 94 }
set_option maxHeartbeats 4000000 in
set_option maxRecDepth 100000 in
theorem c_X2_postCast (l : Launch) (K : KX) (h : Nat) (a : Nat → Nat) (S : HV) (c : Nat) (b : Nat → Nat) (C : HV) (R : Nat) (hR0 : S 10 0 = nI R) (hR0b : R ≤ 6) (P : Nat) (hP0 : S 11 0 = nI P) (hP0b : P ≤ 10) (sz : Nat) : Met l yX2_postCast wsX2_postCast rm_X2_postCast (va_Pc [.ref h, .ref c] (xPre K (hw K h a S ++ cw K c b C) sz)) (va_Qi (fun (r9 : Int32) (u9 : HV) => r9 = bI (R ≠ 0 ∧ hStr S R P ≠ -1)) (fun u9 t => xPost K (va_A (hw K h a S ++ cw K c b C) sz) (hw K h a (if R ≠ 0 ∧ hStr S R P ≠ -1 then hPost S R P else S) ++ cw K c b u9) t) (va_A (hw K h a S ++ cw K c b C) sz)) 0 0 (va_A (hw K h a S ++ cw K c b C) sz) := by
  refine xw_startz (cc := cX2_postCast) (maxL := 3) (ret := .boolean) (by decide) rfl (Nat.le_of_ble_eq_true rfl) ?_
  intro p9 e9 s9 m9 below9 meth9 c9 H locs ls A av9 Q9 hx hb hlocks hml hname hts hown hK hP hD hS hA hsz hend hl
  have hown : s9.vm.findClass RX2 = some m9.cls := hown
  have hl : lv_has ls 3 [(0, .ref h), (1, .ref c)] := hl
  have hi2 : ∀ w ∈ u_ws RX2 TX2 17, w ∈ wsX2_postCast := by decide +kernel
  have lk52 := hts (.fieldLink RX2 52 "StandIns$House" "roles" "I") (by decide +kernel)
  have lk71 := hts (.fieldLink RX2 71 "StandIns$House" "posted" "Z") (by decide +kernel)
  have lk18 := hts (.fieldLink RX2 18 "StandIns$House" "postedPlayers" "[I") (by decide +kernel)
  have hfl : frN S P < 1024 := Nat.lt_of_lt_of_le (frN_lt S P) (pw_le hP0b)
  refine lv_aload_n hx hb dX2_postCast_0 rfl (lv_at hl 0 rfl) ?_
  refine va_get (ci := 2) (v := .int (S 10 0)) (C := RX2) (T := TX2) (N := 17) hx hb hts hi2 hown hK hP 0 rfl rfl 10 (by decide) lk52 (fun _ h9 => h9) rfl dX2_postCast_1 ?_
  refine xn_if_eq (tgt := 20) hx hb R hR0 (by omega) dX2_postCast_4 (by decide) (fun c_4 => ?_) (fun c_4 => ?_)
  · skip
    have hn : ¬ (R ≠ 0 ∧ hStr S R P ≠ -1) := fun z => z.1 c_4
    refine lv_iconst (v := (0 : Int32)) hx hb dX2_postCast_20 (by decide) ?_
    have eS0 : (S) = if R ≠ 0 ∧ hStr S R P ≠ -1 then hPost S R P else S := by first | exact (if_neg hn).symm | (rw [if_pos hp, show k = R by omega, hPost, post_row hC13]; done)
    rw [eS0] at hP hD
    exact hend _ _ _ _ _ _ _ (by decide) C hP hD hS (Nat.le_of_ble_eq_true rfl) (Nat.le_of_ble_eq_true rfl) (by first | exact (bI_f hn).symm | exact (bI_t hp).symm) dX2_postCast_21
  · skip
    refine lv_aload_n hx hb dX2_postCast_7 rfl (lv_at hl 1 rfl) ?_
    refine lv_aload_n hx hb dX2_postCast_8 rfl (lv_at hl 0 rfl) ?_
    refine lv_aload_n hx hb dX2_postCast_9 rfl (lv_at hl 0 rfl) ?_
    have hPc := P_sub (ws' := hw K h a S) hP [0, 1, 2, 3, 4, 5, 6, 7, 8, 9, 10] rfl
    refine xr_V (As := []) (rest := [.ref h, .ref c]) ⟨hx, hb, hml, hown, hts⟩ (c_X2_freePlayers l K h a S P hP0 (by omega)) (cwV 0 hts gX2_postCast_X2_freePlayers rfl rfl rfl (by decide +kernel) ⟨Nat.le_of_ble_eq_true rfl, Nat.le_of_ble_eq_true rfl⟩) hK hPc 0 2 rfl rfl rfl rfl hl.1 rfl (Nat.le_of_ble_eq_true rfl) (Nat.le_of_ble_eq_true rfl) (Nat.le_of_ble_eq_true rfl) dX2_postCast_10 ?_
    refine xw_Vi (As := [.ref h, .int (nI (frN S P))]) (rest := []) (wc := cw K c b C ++ hw K h a S) (wr := (List.filterMap (fun i => (hw K h a S ++ cw K c b C : va_W)[i]?) ([] : List Nat))) ⟨hx, hb, hml, hown, hts⟩ (c_X0_seek l K c b C h a S (frN S P) (by omega) R hR0 (by omega) P hP0 (by omega) H.size) (cwV 2 hts gX2_postCast_X0_seek rfl rfl rfl (by decide +kernel) ⟨Nat.le_of_ble_eq_true rfl, Nat.le_of_ble_eq_true rfl⟩) hK hP hD hS hA [11, 12, 13, 14, 0, 1, 2, 3, 4, 5, 6, 7, 8, 9, 10] [] [4, 5, 6, 7, 8, 9, 10, 11, 12, 13, 14, 0, 1, 2, 3] rfl rfl rfl (fun C13 => hw K h a S ++ cw K c b C13) (fun _ => rfl) 0 0 rfl rfl rfl rfl hl.1 rfl (Nat.le_of_ble_eq_true rfl) (Nat.le_of_ble_eq_true rfl) (Nat.le_of_ble_eq_true rfl) dX2_postCast_13 (fun r13 C13 H locs hq13 hP hD hS => ?_)
    have hP : va_P K.1 vwCl (hw K h a S ++ cw K c b C13) H := hP
    have hD : va_D A (hw K h a S ++ cw K c b C13) := hD
    obtain ⟨rfl, hC13⟩ := hq13
    refine lv_iconst (v := (-1 : Int32)) hx hb dX2_postCast_16 (by decide) ?_
    refine lv_icmp_ne (tgt := 22) hx hb dX2_postCast_17 (by decide) (fun c_17 => ?_) (fun c_17 => ?_)
    · skip
      have hp : R ≠ 0 ∧ hStr S R P ≠ -1 := ⟨c_4, c_17⟩
      refine lv_iconst (v := (0 : Int32)) hx hb dX2_postCast_22 (by decide) ?_
      refine lv_istore_n (lv' := [(2, .int (0 : Int32)), (0, .ref h), (1, .ref c)]) hx hb dX2_postCast_23 rfl hl (by decide) rfl (fun ls hl => ?_)
      have lp24 : ∀ (n9 : Nat) (k : Nat) (H : Heap) (locs : List Loc) (ls : Array Slot), R - k < n9 → (k ≤ R) → va_P K.1 vwCl (hw K h a (hrow S 2 (copF (C13 2) (S 2) k)) ++ cw K c b C13) H → va_D A (hw K h a (hrow S 2 (copF (C13 2) (S 2) k)) ++ cw K c b C13) → va_S A s9.heap H locs → lv_has ls 3 [(0, .ref h), (1, .ref c), (2, .int (nI k))] → W p9 l e9 rm_X2_postCast s9 m9 av9 below9 meth9 c9 H locs 0 0 Q9 (F0 m9 24 ls []) := by
        intro n9
        induction n9 with
        | zero => intro k H locs ls hmu hk hP hD hS hl; exact absurd hmu (Nat.not_lt_zero _)
        | succ n9 ih24 =>
          intro k H locs ls hmu hk hP hD hS hl
          refine lv_iload_n hx hb dX2_postCast_24 rfl (lv_at hl 2 rfl) ?_
          refine lv_aload_n hx hb dX2_postCast_25 rfl (lv_at hl 0 rfl) ?_
          refine va_get (ci := 2) (v := .int (S 10 0)) (C := RX2) (T := TX2) (N := 17) hx hb hts hi2 hown hK hP 0 rfl rfl 10 (by decide) lk52 (fun _ h9 => h9) rfl dX2_postCast_26 ?_
          refine xn_icmp_ge (tgt := 49) hx hb k R rfl hR0 (by omega) (by omega) dX2_postCast_29 (by decide) (fun c_29 => ?_) (fun c_29 => ?_)
          · skip
            refine lv_aload_n hx hb dX2_postCast_49 rfl (lv_at hl 0 rfl) ?_
            refine lv_iconst (v := (1 : Int32)) hx hb dX2_postCast_50 (by decide) ?_
            refine va_put (ci := 2) (v := .int (1 : Int32)) (ty := .boolean) (C := RX2) (T := TX2) (N := 17) hx hb hts hi2 tyX2 tyX2_ok nmX2 hown hK hP hD hS 0 rfl rfl 16 (by decide) lk71 (fun _ h9 => h9) rfl (by decide +kernel) rfl rfl (Nat.le_of_ble_eq_true rfl) dX2_postCast_51 (fun H locs hP hD hS => ?_)
            have hP : va_P K.1 vwCl (hw K h a (hput (hrow S 2 (copF (C13 2) (S 2) k)) 16 (1 : Int32)) ++ cw K c b C13) H := hP
            have hD : va_D A (hw K h a (hput (hrow S 2 (copF (C13 2) (S 2) k)) 16 (1 : Int32)) ++ cw K c b C13) := hD
            refine lv_iconst (v := (1 : Int32)) hx hb dX2_postCast_54 (by decide) ?_
            have eS0 : (hput (hrow S 2 (copF (C13 2) (S 2) k)) 16 (1 : Int32)) = if R ≠ 0 ∧ hStr S R P ≠ -1 then hPost S R P else S := by first | exact (if_neg hn).symm | (rw [if_pos hp, show k = R by omega, hPost, post_row hC13]; done)
            rw [eS0] at hP hD
            exact hend _ _ _ _ _ _ _ (by decide) C13 hP hD hS (Nat.le_of_ble_eq_true rfl) (Nat.le_of_ble_eq_true rfl) (by first | exact (bI_f hn).symm | exact (bI_t hp).symm) dX2_postCast_55
          · skip
            refine lv_aload_n hx hb dX2_postCast_32 rfl (lv_at hl 0 rfl) ?_
            refine va_get (ci := 2) (v := .ref (a 2)) (C := RX2) (T := TX2) (N := 17) hx hb hts hi2 hown hK hP 0 rfl rfl 2 (by decide) lk18 (fun _ h9 => h9) rfl dX2_postCast_33 ?_
            refine lv_iload_n hx hb dX2_postCast_36 rfl (lv_at hl 2 rfl) ?_
            refine lv_aload_n hx hb dX2_postCast_37 rfl (lv_at hl 1 rfl) ?_
            refine lv_iload_n hx hb dX2_postCast_38 rfl (lv_at hl 2 rfl) ?_
            have hPc := P_sub (ws' := cw K c b C13) hP [11, 12, 13, 14] rfl
            refine xr_V (As := [.int (nI k)]) (rest := [.int (nI k), .ref (a 2)]) ⟨hx, hb, hml, hown, hts⟩ (c_X0_playerOf l K c b C13 k (by omega) R hC13.1 (by omega)) (cwV 1 hts gX2_postCast_X0_playerOf rfl rfl rfl (by decide +kernel) ⟨Nat.le_of_ble_eq_true rfl, Nat.le_of_ble_eq_true rfl⟩) hK hPc 0 0 rfl rfl rfl rfl hl.1 rfl (Nat.le_of_ble_eq_true rfl) (Nat.le_of_ble_eq_true rfl) (Nat.le_of_ble_eq_true rfl) dX2_postCast_39 ?_
            rw [if_pos (show k < R from c_29)]
            refine xi_st hx hb hK hP hD hS 3 (f := (copF (C13 2) (S 2) k)) rfl k rfl (by omega) (by decide) (hw K h a (hset (hrow S 2 (copF (C13 2) (S 2) k)) 2 k (C13 2 k)) ++ cw K c b C13) rfl dX2_postCast_42 (fun H locs hP hD hS => ?_)
            refine lv_iinc (v := nI (k + 1)) (lv' := [(2, .int (nI (k + 1))), (0, .ref h), (1, .ref c)]) hx hb dX2_postCast_43 hl (k := 2) rfl (nI_1 _) (by decide) rfl (fun ls hl => ?_)
            refine lv_goto (tgt := 24) hx hb dX2_postCast_46 (by decide) ?_
            have eS0 : (hset (hrow S 2 (copF (C13 2) (S 2) k)) 2 k (C13 2 k)) = hrow S 2 (copF (C13 2) (S 2) (k + 1)) := by (unfold hset; rw [hrow_hrow, hrow_self, copF_s])
            have hP : va_P K.1 vwCl (hw K h a (hrow S 2 (copF (C13 2) (S 2) (k + 1))) ++ cw K c b C13) H := by rw [← eS0]; exact hP
            have hD : va_D A (hw K h a (hrow S 2 (copF (C13 2) (S 2) (k + 1))) ++ cw K c b C13) := by rw [← eS0]; exact hD
            exact ih24 (k + 1) _ _ _ (by omega) (by first | omega | assumption | first | rfl | (simp [c_4, c_17, c_29]; done) | omega) hP hD hS (lv_cons (lv_at hl 1 rfl) (lv_cons (lv_at hl 2 rfl) (lv_cons (lv_at hl 0 rfl) (lv_nil hl))))
      have eS0 : (S) = hrow S 2 (copF (C13 2) (S 2) 0) := by rw [← copF_0, hrow_same]
      have hP : va_P K.1 vwCl (hw K h a (hrow S 2 (copF (C13 2) (S 2) 0)) ++ cw K c b C13) H := by rw [← eS0]; exact hP
      have hD : va_D A (hw K h a (hrow S 2 (copF (C13 2) (S 2) 0)) ++ cw K c b C13) := by rw [← eS0]; exact hD
      exact lp24 _ 0 _ _ _ (Nat.lt_succ_self _) (by first | omega | assumption | first | rfl | (simp [c_4, c_17]; done) | omega) hP hD hS (lv_cons (lv_at hl 1 rfl) (lv_cons (lv_at hl 2 rfl) (lv_cons (lv_is (lv_at hl 0 rfl) (show (0 : Int32) = nI 0 by first | rfl | (simp [c_4, c_17]; done) | omega)) (lv_nil hl))))
    · skip
      have hn : ¬ (R ≠ 0 ∧ hStr S R P ≠ -1) := fun z => z.2 c_17
      refine lv_iconst (v := (0 : Int32)) hx hb dX2_postCast_20 (by decide) ?_
      have eS0 : (S) = if R ≠ 0 ∧ hStr S R P ≠ -1 then hPost S R P else S := by first | exact (if_neg hn).symm | (rw [if_pos hp, show k = R by omega, hPost, post_row hC13]; done)
      rw [eS0] at hP hD
      exact hend _ _ _ _ _ _ _ (by decide) C13 hP hD hS (Nat.le_of_ble_eq_true rfl) (Nat.le_of_ble_eq_true rfl) (by first | exact (bI_f hn).symm | exact (bI_t hp).symm) dX2_postCast_21

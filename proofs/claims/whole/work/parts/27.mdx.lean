/-! the model: what would be -/
abbrev mLk (N : Nat → Int32) (p : Nat) : Nat → Int32 := upd N (50 + p) (N 0 + 1)
def kWithM (N : Nat → Int32) (p : Int32) : Nat := if isPlM N p then 0 else 1
def kComM (R : Nat) (n : Int32) : Nat := if ¬ inR n 1 30 then 1 else if R = 0 then 2 else 0
def kDegM (N : Nat → Int32) (p r : Int32) : Nat := if isPlM N p ∧ isRoM N r then 0 else 1
def lmM (n : Int32) : Nat := if n = 1 then 10000 else if n = 2 then 100000000 else 1000000000000
def kRunM (n : Int32) (x : Int64) : Nat := if inR n 1 3 ∧ ¬ x < 0 ∧ x < lN (lmM n) then 0 else 1
def mmM (N : Nat → Int32) (R P : Nat) : Nat → Int32 × Int32 | 0 => (-1, 0) | k + 1 => if mFree N k then (if (mmM N R P k).1 = -1 ∨ mStr (mLk N k) R P < (mmM N R P k).2 then (nI k, mStr (mLk N k) R P) else mmM N R P k) else mmM N R P k
def misM (N : Nat → Int32) (R P : Nat) : Int32 := if R = 0 ∨ mStr N R P < 0 then -1 else (mmM N R P P).1
def mPn (N : Nat → Int32) (R P : Nat) : Nat → Nat → Int32 | 0 => N | k + 1 => mPlay (mPn N R P k) R P
theorem km_pn {N : Nat → Int32} {R P i n : Nat} (h : i = 3 ∨ i = 4) (e : N i = nI n) : ∀ {k : Nat}, mPn N R P k i = nI n
  | 0 => e
  | _ + 1 => km_play h (km_pn h e)
def dyM (N : Nat → Int32) (R P : Nat) : Nat → Int32 | 0 => 0 | k + 1 => dyM N R P k ||| (if mPaid (mPn N R P k) R P = -1 then 0 else (1 : Int32) <<< (nI k &&& 31))
abbrev mDg (N : Nat → Int32) (p r d : Nat) : Nat → Int32 := upd N (70 + 6 * p + r) (nI d)
def ldM (N : Nat → Int32) (R P p r : Nat) : Nat → Bool := fun d => decide (csG (mDg N p r d) R P r = nI p)
theorem upd_upd' (f : Nat → Int32) (k : Nat) (x y : Int32) : upd (upd f k x) k y = upd f k y := upd_upd f k x y
def msB (N : Nat → Int32) (R P g : Nat) : Bool :=
  if g / 1000 = 1 then decide (g / 100 % 10 < P ∧ g / 10 % 10 < R) else
  if g / 1000 = 2 then decide (g / 100 % 10 < R ∧ g / 10 % 10 < P ∧ g % 10 = 0) else
  if g / 1000 = 3 then decide (g / 100 % 10 < P ∧ g / 10 % 10 = 0 ∧ 0 < g % 10) else
  if g / 1000 = 4 then decide (g = 4000 ∧ 0 < R ∧ ¬ mStr N R P < 0) else
  if g / 1000 = 5 then decide (g = 5000 ∧ 0 < R ∧ ¬ mPaid N R P = -1) else
  if g / 1000 = 6 then decide (g / 100 % 10 = 0 ∧ 0 < g % 100) else
  if g / 1000 = 7 then decide (g % 10 = 0 ∧ g / 100 % 10 < R ∧ g / 10 % 10 < P ∧ csG N R P (g / 100 % 10) = nI (g / 10 % 10)) else
  if g / 1000 = 8 then decide (¬ mStr N R P < nI (g % 1000)) else
  if g / 1000 = 9 then decide (g / 100 % 10 < P ∧ ¬ N (30 + g / 100 % 10) < nI (g % 100)) else false
def msS (N : Nat → Int32) (R P g : Nat) : Nat → Int32 :=
  if g / 1000 = 1 then (if g / 100 % 10 < P ∧ g / 10 % 10 < R then upd N (70 + 6 * (g / 100 % 10) + g / 10 % 10) (nI (g % 10)) else N) else
  if g / 1000 = 2 then (if g / 100 % 10 < R ∧ g / 10 % 10 < P ∧ g % 10 = 0 then upd N (18 + g / 100 % 10) (nI (g / 10 % 10)) else N) else
  if g / 1000 = 3 then (if g / 100 % 10 < P ∧ g / 10 % 10 = 0 ∧ 0 < g % 10 then upd N (50 + g / 100 % 10) (N 0 + nI (g % 10)) else N) else
  if g / 1000 = 4 then (if g = 4000 ∧ 0 < R then mPost N R P else N) else
  if g / 1000 = 5 then (if g = 5000 ∧ 0 < R then mPlay N R P else N) else
  if g / 1000 = 6 then (if g / 100 % 10 = 0 ∧ 0 < g % 100 then mDk N (g % 100) P else N) else N
theorem km_ms {N : Nat → Int32} {R P g i n : Nat} (h : i = 3 ∨ i = 4) (e : N i = nI n) : msS N R P g i = nI n := by
  unfold msS
  repeat' split
  all_goals first | exact e | exact mk_un (by omega) e | exact km_post h e | exact km_play h e | exact km_dk h e
def mfS (N : Nat → Int32) (R P n s : Nat) : Nat → Nat → Int32 | 0 => N | i + 1 => msS (mfS N R P n s i) R P (s / 10000 ^ (n - 1 - i) % 10000)
theorem km_mf {N : Nat → Int32} {R P m s i n : Nat} (h : i = 3 ∨ i = 4) (e : N i = nI n) : ∀ {k : Nat}, mfS N R P m s k i = nI n
  | 0 => e
  | _ + 1 => km_ms h (km_mf h e)
def mfF (N : Nat → Int32) (R P n s : Nat) : Nat → Bool := fun i => !msB (mfS N R P n s i) R P (s / 10000 ^ (n - 1 - i) % 10000)
def mdS (N : Nat → Int32) (R P r : Nat) : Nat → Int32 :=
  if r % 8 = 2 then mDk N 1 P else
  if r % 8 = 0 then mPlay (upd N (50 + r / 8 % P) (N 0 + 1 + nI (r / 128 % 5))) R P else
  if r % 8 = 1 then mPlay (upd (mPost N R P) (50 + r / 8 % P) (mPost N R P 0 + 1)) R P else mPlay N R P
theorem km_md {N : Nat → Int32} {R P r i n : Nat} (h : i = 3 ∨ i = 4) (e : N i = nI n) : mdS N R P r i = nI n := by
  unfold mdS
  repeat' split
  all_goals first | exact km_dk h e | exact km_play h (mk_un (by omega) e) | exact km_play h (mk_un (by omega) (km_post h e)) | exact km_play h e
def mmS (N : Nat → Int32) (R P : Nat) (x : Int64) : Nat → Nat → Int32 | 0 => N | k + 1 => mdS (mmS N R P x k) R P (rN (smX x (k + 1)))
theorem km_mm {N : Nat → Int32} {R P i n : Nat} {x : Int64} (h : i = 3 ∨ i = 4) (e : N i = nI n) : ∀ {k : Nat}, mmS N R P x k i = nI n
  | 0 => e
  | _ + 1 => km_md h (km_mm h e)
def smM (N : Nat → Int32) (R P : Nat) (x : Int64) (m : Nat) : Int32 := 1000 * (mmS N R P x (if 0 < P ∧ 0 < R then m else 0) 1 - N 1) + mmS N R P x (if 0 < P ∧ 0 < R then m else 0) 2 - N 2
theorem mOK_ext {f g : Nat → Int32} {R P : Nat} (hR : R ≤ 6) (hP : P ≤ 10) (h : ∀ i, (12 ≤ i ∧ i < 24) ∨ (70 ≤ i ∧ i < 130) → g i = f i) (ho : mOK f R P) : mOK g R P := by
  intro p r hp hr
  obtain ⟨v, h1, h2, h3⟩ := ho p r hp hr
  have e1 : g (70 + 6 * p + r) = f (70 + 6 * p + r) := h _ (by omega)
  have e2 : g (12 + r) = f (12 + r) := h _ (by omega)
  have e3 : g (18 + r) = f (18 + r) := h _ (by omega)
  refine ⟨v, h1, ?_, ?_⟩
  · rw [← h2]
    unfold mW
    rw [e1, e2, e3]
  · rw [e1]
    exact h3
theorem mOK_lk {N : Nat → Int32} {R P p : Nat} {v : Int32} (hR : R ≤ 6) (hP : P ≤ 10) (hp : p < 10) (h : mOK N R P) : mOK (upd N (50 + p) v) R P := mOK_ext hR hP (fun i hi => pk_un (by omega)) h
theorem mOK_post {N : Nat → Int32} {R P : Nat} (hR : R ≤ 6) (hP : P ≤ 10) (h : mOK N R P) : mOK (mPost N R P) R P := by
  unfold mPost
  split
  · exact h
  · refine mOK_ext hR hP (fun i hi => ?_) h
    unfold poF
    rw [if_neg (by omega), pk_un (by omega)]

abbrev rm_X6_tries : Room := { frames := 1, cells := 0, slots := 0, locals := 24 }
set_option maxHeartbeats 4000000 in
set_option maxRecDepth 100000 in
theorem c_X6_tries (l : Launch) (K : KX) (h : Nat) (a : Nat → Nat) (M : HV) (sz : Nat) : Met l yX6_tries wsX6_tries rm_X6_tries (va_Pc [.ref h] (xPre K (mw K h a M) sz)) (va_Qv (fun _u : Unit => True) (fun _u t => xPost K (va_A (mw K h a M) sz) (mw K h a (hrow M 1 (M 0))) t) (va_A (mw K h a M) sz)) 0 0 (va_A (mw K h a M) sz) := by
  refine xw_startv (cc := cX6_tries) (maxL := 1) (by decide) rfl (Nat.le_of_ble_eq_true rfl) ?_
  intro p9 e9 s9 m9 below9 meth9 c9 H locs ls A av9 Q9 hx hb hlocks hml hname hts hown hK hP hD hS hA hsz hend hl
  have hown : s9.vm.findClass RX6 = some m9.cls := hown
  have hl : lv_has ls 1 [(0, .ref h)] := hl
  have hi6 : ∀ w ∈ u_ws RX6 TX6 14, w ∈ wsX6_tries := by decide +kernel
  have lk7 := hts (.fieldLink RX6 7 "StandInsModel" "now" "[I") (by decide +kernel)
  have lk13 := hts (.fieldLink RX6 13 "StandInsModel" "trial" "[I") (by decide +kernel)
  refine lv_aload_n hx hb dX6_tries_0 rfl (lv_at hl 0 rfl) ?_
  refine va_get (ci := 6) (v := .ref (a 0)) (C := RX6) (T := TX6) (N := 14) hx hb hts hi6 hown hK hP 0 rfl rfl 0 (by decide) lk7 (fun _ h9 => h9) rfl dX6_tries_1 ?_
  refine lv_iconst (v := (0 : Int32)) hx hb dX6_tries_4 (by decide) ?_
  refine lv_aload_n hx hb dX6_tries_5 rfl (lv_at hl 0 rfl) ?_
  refine va_get (ci := 6) (v := .ref (a 1)) (C := RX6) (T := TX6) (N := 14) hx hb hts hi6 hown hK hP 0 rfl rfl 1 (by decide) lk13 (fun _ h9 => h9) rfl dX6_tries_6 ?_
  refine lv_iconst (v := (0 : Int32)) hx hb dX6_tries_9 (by decide) ?_
  refine xw_Sv (As := [.ref (a 0), .int (0 : Int32), .ref (a 1), .int (0 : Int32)]) (rest := []) (wc := [((a 0), aI K 190 (M 0))] ++ [((a 1), aI K 190 (M 1))]) (wr := (List.filterMap (fun i => (mw K h a M : va_W)[i]?) ([0, 3, 4, 5, 6, 7, 8, 9] : List Nat))) ⟨hx, hb, hml, hown, hts⟩ (c_X6_lays l K (a 0) (M 0) 190 (by decide) 0 (a 1) (M 1) 190 (by decide) 0 (by decide) (by decide) H.size) (va_cwS 4 hts gX6_tries_X6_lays rfl rfl rfl (by decide +kernel) ⟨Nat.le_of_ble_eq_true rfl, Nat.le_of_ble_eq_true rfl⟩) hK hP hD hS hA [1, 2] [0, 3, 4, 5, 6, 7, 8, 9] [0, 8, 9, 1, 2, 3, 4, 5, 6, 7] rfl rfl rfl (fun _u => mw K h a (hrow (hrow M 0 (M 0)) 1 (layF (M 0) (M 1) 0 0 190))) (fun _ => rfl) rfl hl.1 rfl (Nat.le_of_ble_eq_true rfl) (Nat.le_of_ble_eq_true rfl) (Nat.le_of_ble_eq_true rfl) dX6_tries_10 (fun _ H locs hq10 hP hD hS => ?_)
  have hP : va_P K.1 vwCl (mw K h a (hrow (hrow M 0 (M 0)) 1 (layF (M 0) (M 1) 0 0 190))) H := hP
  have hD : va_D A (mw K h a (hrow (hrow M 0 (M 0)) 1 (layF (M 0) (M 1) 0 0 190))) := hD
  have hP := P_ext hP 2 (f := layF (M 0) (M 1) 0 0 190) (g := M 0) rfl (by intro j hj; unfold layF; rw [if_pos (by omega), show 0 + (j - 0) = j by omega])
  have hD : va_D A (mw K h a (hrow (hrow M 0 (M 0)) 1 (M 0))) := hD.set (p := 2) rfl
  have hP : va_P K.1 vwCl (mw K h a (hrow (hrow M 0 (M 0)) 1 (M 0))) H := hP
  exact hend _ _ _ _ _ _ () hP hD hS (Nat.le_of_ble_eq_true rfl) (Nat.le_of_ble_eq_true rfl) trivial dX6_tries_13

abbrev rm_X6_strength : Room := { frames := 4, cells := 0, slots := 0, locals := 96 }
set_option maxHeartbeats 4000000 in
set_option maxRecDepth 100000 in
theorem c_X6_strength (l : Launch) (K : KX) (h : Nat) (a : Nat → Nat) (M : HV) (R : Nat) (hR0 : M 0 3 = nI R) (hR0b : R ≤ 6) (P : Nat) (hP0 : M 0 4 = nI P) (hP0b : P ≤ 10) (hok : mOK (M 0) R P) (sz : Nat) : Met l yX6_strength wsX6_strength rm_X6_strength (va_Pc [.ref h] (xPre K (mw K h a M) sz)) (va_Qi (fun (r9 : Int32) (u9 : Nat → Int32) => r9 = mStr (M 0) R P) (fun u9 t => xPost K (va_A (mw K h a M) sz) (mw K h a (hput (hrow (hrow M 9 u9) 10 (mcR (M 0) R P (M 10) 6)) 8 0)) t) (va_A (mw K h a M) sz)) 0 0 (va_A (mw K h a M) sz) := by
  refine xw_starti (cc := cX6_strength) (maxL := 1) (by decide) rfl (Nat.le_of_ble_eq_true rfl) ?_
  intro p9 e9 s9 m9 below9 meth9 c9 H locs ls A av9 Q9 hx hb hlocks hml hname hts hown hK hP hD hS hA hsz hend hl
  have hown : s9.vm.findClass RX6 = some m9.cls := hown
  have hl : lv_has ls 1 [(0, .ref h)] := hl
  have hi6 : ∀ w ∈ u_ws RX6 TX6 14, w ∈ wsX6_strength := by decide +kernel
  have lk42 := hts (.fieldLink RX6 42 "StandInsModel" "thrown" "I") (by decide +kernel)
  have lk7 := hts (.fieldLink RX6 7 "StandInsModel" "now" "[I") (by decide +kernel)
  refine lv_aload_n hx hb dX6_strength_0 rfl (lv_at hl 0 rfl) ?_
  refine lv_iconst (v := (0 : Int32)) hx hb dX6_strength_1 (by decide) ?_
  refine va_put (ci := 6) (v := .int (0 : Int32)) (ty := .int) (C := RX6) (T := TX6) (N := 14) hx hb hts hi6 tyX6 tyX6_ok nmX6 hown hK hP hD hS 0 rfl rfl 8 (by decide) lk42 (fun _ h9 => h9) rfl (by decide +kernel) rfl rfl (Nat.le_of_ble_eq_true rfl) dX6_strength_2 (fun H locs hP hD hS => ?_)
  have hP : va_P K.1 vwCl (mw K h a (hput M 8 (0 : Int32))) H := hP
  have hD : va_D A (mw K h a (hput M 8 (0 : Int32))) := hD
  refine lv_aload_n hx hb dX6_strength_5 rfl (lv_at hl 0 rfl) ?_
  refine lv_aload_n hx hb dX6_strength_6 rfl (lv_at hl 0 rfl) ?_
  refine va_get (ci := 6) (v := .ref (a 0)) (C := RX6) (T := TX6) (N := 14) hx hb hts hi6 hown hK hP 0 rfl rfl 0 (by decide) lk7 (fun _ h9 => h9) rfl dX6_strength_7 ?_
  refine xw_Vi (As := [.ref (a 0)]) (rest := []) (wc := mw K h a (hput M 8 (0 : Int32))) (wr := (List.filterMap (fun i => (mw K h a (hput M 8 (0 : Int32)) : va_W)[i]?) ([] : List Nat))) ⟨hx, hb, hml, hown, hts⟩ (c_X6_casts_n l K h a (hput M 8 (0 : Int32)) R hR0 (by omega) P hP0 (by omega) (by first | assumption | omega) H.size) (cwV 1 hts gX6_strength_X6_casts rfl rfl rfl (by decide +kernel) ⟨Nat.le_of_ble_eq_true rfl, Nat.le_of_ble_eq_true rfl⟩) hK hP hD hS hA [0, 1, 2, 3, 4, 5, 6, 7, 8, 9] [] [0, 1, 2, 3, 4, 5, 6, 7, 8, 9] rfl rfl rfl (fun E10 => mw K h a (hrow (hrow (hput M 8 (0 : Int32)) 9 E10) 10 (mcR (M 0) R P (M 10) 6))) (fun _ => rfl) 0 6 rfl rfl rfl rfl hl.1 rfl (Nat.le_of_ble_eq_true rfl) (Nat.le_of_ble_eq_true rfl) (Nat.le_of_ble_eq_true rfl) dX6_strength_10 (fun r10 E10 H locs hq10 hP hD hS => ?_)
  have hP : va_P K.1 vwCl (mw K h a (hrow (hrow (hput M 8 (0 : Int32)) 9 E10) 10 (mcR (M 0) R P (M 10) 6))) H := hP
  have hD : va_D A (mw K h a (hrow (hrow (hput M 8 (0 : Int32)) 9 E10) 10 (mcR (M 0) R P (M 10) 6))) := hD
  have hq10 : r10 = mStr (M 0) R P := hq10
  subst hq10
  have eR1 : (0 : Int32) = 0 := by rfl
  have hP : va_P K.1 vwCl (mw K h a (hrow (hrow (hput M 8 0) 9 E10) 10 (mcR (M 0) R P (M 10) 6))) H := by rw [← eR1]; exact hP
  have hD : va_D A (mw K h a (hrow (hrow (hput M 8 0) 9 E10) 10 (mcR (M 0) R P (M 10) 6))) := by rw [← eR1]; exact hD
  exact hend _ _ _ _ _ _ _ E10 hP hD hS (Nat.le_of_ble_eq_true rfl) (Nat.le_of_ble_eq_true rfl) (by rfl) dX6_strength_13

abbrev rm_X6_lacking : Room := { frames := 4, cells := 0, slots := 0, locals := 96 }
set_option maxHeartbeats 4000000 in
set_option maxRecDepth 100000 in
theorem c_X6_lacking (l : Launch) (K : KX) (h : Nat) (a : Nat → Nat) (M : HV) (p : Nat) (hp : p < 10) (R : Nat) (hR0 : M 0 3 = nI R) (hR0b : R ≤ 6) (P : Nat) (hP0 : M 0 4 = nI P) (hP0b : P ≤ 10) (hok : mOK (M 0) R P) (sz : Nat) : Met l yX6_lacking wsX6_lacking rm_X6_lacking (va_Pc [.ref h, .int (nI p)] (xPre K (mw K h a M) sz)) (va_Qi (fun (r9 : Int32) (u9 : (Nat → Int32) × (Nat → Int32)) => r9 = mStr (mLk (M 0) p) R P) (fun u9 t => xPost K (va_A (mw K h a M) sz) (mw K h a (hrow (hrow (hrow M 1 (mLk (M 0) p)) 9 u9.1) 10 u9.2)) t) (va_A (mw K h a M) sz)) 0 0 (va_A (mw K h a M) sz) := by
  refine xw_starti (cc := cX6_lacking) (maxL := 2) (by decide) rfl (Nat.le_of_ble_eq_true rfl) ?_
  intro p9 e9 s9 m9 below9 meth9 c9 H locs ls A av9 Q9 hx hb hlocks hml hname hts hown hK hP hD hS hA hsz hend hl
  have hown : s9.vm.findClass RX6 = some m9.cls := hown
  have hl : lv_has ls 2 [(0, .ref h), (1, .int (nI p))] := hl
  have hi6 : ∀ w ∈ u_ws RX6 TX6 14, w ∈ wsX6_lacking := by decide +kernel
  have lk13 := hts (.fieldLink RX6 13 "StandInsModel" "trial" "[I") (by decide +kernel)
  refine lv_aload_n hx hb dX6_lacking_0 rfl (lv_at hl 0 rfl) ?_
  refine xw_Vv (As := []) (rest := []) (wc := mw K h a M) (wr := (List.filterMap (fun i => (mw K h a M : va_W)[i]?) ([] : List Nat))) ⟨hx, hb, hml, hown, hts⟩ (c_X6_tries l K h a M H.size) (cwV 0 hts gX6_lacking_X6_tries rfl rfl rfl (by decide +kernel) ⟨Nat.le_of_ble_eq_true rfl, Nat.le_of_ble_eq_true rfl⟩) hK hP hD hS hA [0, 1, 2, 3, 4, 5, 6, 7, 8, 9] [] [0, 1, 2, 3, 4, 5, 6, 7, 8, 9] rfl rfl rfl (fun _u => mw K h a (hrow M 1 (M 0))) (fun _ => rfl) 0 6 rfl rfl rfl rfl hl.1 rfl (Nat.le_of_ble_eq_true rfl) (Nat.le_of_ble_eq_true rfl) (Nat.le_of_ble_eq_true rfl) dX6_lacking_1 (fun _ H locs hq1 hP hD hS => ?_)
  have hP : va_P K.1 vwCl (mw K h a (hrow M 1 (M 0))) H := hP
  have hD : va_D A (mw K h a (hrow M 1 (M 0))) := hD
  refine lv_aload_n hx hb dX6_lacking_4 rfl (lv_at hl 0 rfl) ?_
  refine va_get (ci := 6) (v := .ref (a 1)) (C := RX6) (T := TX6) (N := 14) hx hb hts hi6 hown hK hP 0 rfl rfl 1 (by decide) lk13 (fun _ h9 => h9) rfl dX6_lacking_5 ?_
  refine lv_bipush (v := (50 : Int32)) hx hb dX6_lacking_8 (by decide) ?_
  refine lv_iload_n hx hb dX6_lacking_10 rfl (lv_at hl 1 rfl) ?_
  refine lv_iadd hx hb dX6_lacking_11 ?_
  refine lv_aload_n hx hb dX6_lacking_12 rfl (lv_at hl 0 rfl) ?_
  refine va_get (ci := 6) (v := .ref (a 1)) (C := RX6) (T := TX6) (N := 14) hx hb hts hi6 hown hK hP 0 rfl rfl 1 (by decide) lk13 (fun _ h9 => h9) rfl dX6_lacking_13 ?_
  refine lv_iconst (v := (0 : Int32)) hx hb dX6_lacking_16 (by decide) ?_
  refine xi_ld hx hb hK hP 2 (f := (M 0)) rfl 0 rfl (by omega) (by decide) dX6_lacking_17 ?_
  refine lv_iconst (v := (1 : Int32)) hx hb dX6_lacking_18 (by decide) ?_
  refine lv_iadd hx hb dX6_lacking_19 ?_
  refine xi_st hx hb hK hP hD hS 2 (f := (M 0)) rfl (50 + p) (nn_add rfl rfl) (by omega) (by decide) (mw K h a (hrow M 1 (upd (M 0) (50 + p) (((M 0) 0) + (1 : Int32))))) rfl dX6_lacking_20 (fun H locs hP hD hS => ?_)
  refine lv_aload_n hx hb dX6_lacking_21 rfl (lv_at hl 0 rfl) ?_
  refine lv_aload_n hx hb dX6_lacking_22 rfl (lv_at hl 0 rfl) ?_
  refine va_get (ci := 6) (v := .ref (a 1)) (C := RX6) (T := TX6) (N := 14) hx hb hts hi6 hown hK hP 0 rfl rfl 1 (by decide) lk13 (fun _ h9 => h9) rfl dX6_lacking_23 ?_
  refine xw_Vi (As := [.ref (a 1)]) (rest := []) (wc := mw K h a (hrow M 1 (upd (M 0) (50 + p) (((M 0) 0) + (1 : Int32))))) (wr := (List.filterMap (fun i => (mw K h a (hrow M 1 (upd (M 0) (50 + p) (((M 0) 0) + (1 : Int32)))) : va_W)[i]?) ([] : List Nat))) ⟨hx, hb, hml, hown, hts⟩ (c_X6_casts_t l K h a (hrow M 1 (upd (M 0) (50 + p) (((M 0) 0) + (1 : Int32)))) R (mk_un (by omega) hR0) (by omega) P (mk_un (by omega) hP0) (by omega) (mOK_lk hR0b hP0b hp hok) H.size) (cwV 1 hts gX6_lacking_X6_casts rfl rfl rfl (by decide +kernel) ⟨Nat.le_of_ble_eq_true rfl, Nat.le_of_ble_eq_true rfl⟩) hK hP hD hS hA [0, 1, 2, 3, 4, 5, 6, 7, 8, 9] [] [0, 1, 2, 3, 4, 5, 6, 7, 8, 9] rfl rfl rfl (fun E26 => mw K h a (hrow (hrow (hrow M 1 (upd (M 0) (50 + p) (((M 0) 0) + (1 : Int32)))) 9 E26) 10 (mcR ((upd (M 0) (50 + p) (((M 0) 0) + (1 : Int32)))) R P (M 10) 6))) (fun _ => rfl) 0 6 rfl rfl rfl rfl hl.1 rfl (Nat.le_of_ble_eq_true rfl) (Nat.le_of_ble_eq_true rfl) (Nat.le_of_ble_eq_true rfl) dX6_lacking_26 (fun r26 E26 H locs hq26 hP hD hS => ?_)
  have hP : va_P K.1 vwCl (mw K h a (hrow (hrow (hrow M 1 (upd (M 0) (50 + p) (((M 0) 0) + (1 : Int32)))) 9 E26) 10 (mcR ((upd (M 0) (50 + p) (((M 0) 0) + (1 : Int32)))) R P (M 10) 6))) H := hP
  have hD : va_D A (mw K h a (hrow (hrow (hrow M 1 (upd (M 0) (50 + p) (((M 0) 0) + (1 : Int32)))) 9 E26) 10 (mcR ((upd (M 0) (50 + p) (((M 0) 0) + (1 : Int32)))) R P (M 10) 6))) := hD
  have hq26 : r26 = mStr ((upd (M 0) (50 + p) (((M 0) 0) + (1 : Int32)))) R P := hq26
  subst hq26
  have eR1 : (upd (M 0) (50 + p) (((M 0) 0) + (1 : Int32))) = mLk (M 0) p := by rfl
  have hP : va_P K.1 vwCl (mw K h a (hrow (hrow (hrow M 1 (mLk (M 0) p)) 9 E26) 10 (mcR ((upd (M 0) (50 + p) (((M 0) 0) + (1 : Int32)))) R P (M 10) 6))) H := by rw [← eR1]; exact hP
  have hD : va_D A (mw K h a (hrow (hrow (hrow M 1 (mLk (M 0) p)) 9 E26) 10 (mcR ((upd (M 0) (50 + p) (((M 0) 0) + (1 : Int32)))) R P (M 10) 6))) := by rw [← eR1]; exact hD
  exact hend _ _ _ _ _ _ _ (E26, mcR ((upd (M 0) (50 + p) (((M 0) 0) + (1 : Int32)))) R P (M 10) 6) hP hD hS (Nat.le_of_ble_eq_true rfl) (Nat.le_of_ble_eq_true rfl) (by rfl) dX6_lacking_29

abbrev rm_X6_without : Room := { frames := 5, cells := 0, slots := 0, locals := 117 }
set_option maxHeartbeats 4000000 in
set_option maxRecDepth 100000 in
theorem c_X6_without (l : Launch) (K : KX) (h : Nat) (a : Nat → Nat) (M : HV) (p : Int32) (R : Nat) (hR0 : M 0 3 = nI R) (hR0b : R ≤ 6) (P : Nat) (hP0 : M 0 4 = nI P) (hP0b : P ≤ 10) (hok : mOK (M 0) R P) (sz : Nat) : Met l yX6_without wsX6_without rm_X6_without (va_Pc [.ref h, .int p] (xPre K (mw K h a M) sz)) (va_Qi (fun (r9 : Int32) (u9 : (Nat → Int32) × (Nat → Int32) × (Nat → Int32)) => kWithM (M 0) p = 0 → r9 = mStr (mLk (M 0) (cN p)) R P) (fun u9 t => xPost K (va_A (mw K h a M) sz) (mw K h a (hput (hrow (hrow (hrow M 1 u9.1) 9 u9.2.1) 10 u9.2.2) 8 (nI (kWithM (M 0) p)))) t) (va_A (mw K h a M) sz)) 0 0 (va_A (mw K h a M) sz) := by
  refine xw_starti (cc := cX6_without) (maxL := 2) (by decide) rfl (Nat.le_of_ble_eq_true rfl) ?_
  intro p9 e9 s9 m9 below9 meth9 c9 H locs ls A av9 Q9 hx hb hlocks hml hname hts hown hK hP hD hS hA hsz hend hl
  have hown : s9.vm.findClass RX6 = some m9.cls := hown
  have hl : lv_has ls 2 [(0, .ref h), (1, .int p)] := hl
  have hi6 : ∀ w ∈ u_ws RX6 TX6 14, w ∈ wsX6_without := by decide +kernel
  have lk42 := hts (.fieldLink RX6 42 "StandInsModel" "thrown" "I") (by decide +kernel)
  have lk7 := hts (.fieldLink RX6 7 "StandInsModel" "now" "[I") (by decide +kernel)
  refine lv_aload_n hx hb dX6_without_0 rfl (lv_at hl 0 rfl) ?_
  refine lv_iconst (v := (0 : Int32)) hx hb dX6_without_1 (by decide) ?_
  refine va_put (ci := 6) (v := .int (0 : Int32)) (ty := .int) (C := RX6) (T := TX6) (N := 14) hx hb hts hi6 tyX6 tyX6_ok nmX6 hown hK hP hD hS 0 rfl rfl 8 (by decide) lk42 (fun _ h9 => h9) rfl (by decide +kernel) rfl rfl (Nat.le_of_ble_eq_true rfl) dX6_without_2 (fun H locs hP hD hS => ?_)
  have hP : va_P K.1 vwCl (mw K h a (hput M 8 (0 : Int32))) H := hP
  have hD : va_D A (mw K h a (hput M 8 (0 : Int32))) := hD
  refine lv_aload_n hx hb dX6_without_5 rfl (lv_at hl 0 rfl) ?_
  refine va_get (ci := 6) (v := .ref (a 0)) (C := RX6) (T := TX6) (N := 14) hx hb hts hi6 hown hK hP 0 rfl rfl 0 (by decide) lk7 (fun _ h9 => h9) rfl dX6_without_6 ?_
  refine lv_iload_n hx hb dX6_without_9 rfl (lv_at hl 1 rfl) ?_
  have hPc := P_sub (ws' := [((a 0), aI K 190 (M 0))]) hP [1] rfl
  refine xr_S (As := [.ref (a 0), .int p]) (rest := []) ⟨hx, hb, hml, hown, hts⟩ (c_X6_isPlayer l K (a 0) (M 0) p P hP0 (by omega)) (va_cwS 2 hts gX6_without_X6_isPlayer rfl rfl rfl (by decide +kernel) ⟨Nat.le_of_ble_eq_true rfl, Nat.le_of_ble_eq_true rfl⟩) hK hPc rfl hl.1 rfl (Nat.le_of_ble_eq_true rfl) (Nat.le_of_ble_eq_true rfl) (Nat.le_of_ble_eq_true rfl) dX6_without_10 ?_
  refine xb_if_eq (tgt := 24) hx hb dX6_without_13 (by decide) (fun c_13 => ?_) (fun c_13 => ?_)
  · skip
    refine lv_aload_n hx hb dX6_without_24 rfl (lv_at hl 0 rfl) ?_
    refine lv_iconst (v := (1 : Int32)) hx hb dX6_without_25 (by decide) ?_
    refine xw_Vi (As := [.int (1 : Int32)]) (rest := []) (wc := mw K h a (hput M 8 (0 : Int32))) (wr := (List.filterMap (fun i => (mw K h a (hput M 8 (0 : Int32)) : va_W)[i]?) ([] : List Nat))) ⟨hx, hb, hml, hown, hts⟩ (c_X6_fails l K h a (hput M 8 (0 : Int32)) (1 : Int32) H.size) (cwV 1 hts gX6_without_X6_fails rfl rfl rfl (by decide +kernel) ⟨Nat.le_of_ble_eq_true rfl, Nat.le_of_ble_eq_true rfl⟩) hK hP hD hS hA [0, 1, 2, 3, 4, 5, 6, 7, 8, 9] [] [0, 1, 2, 3, 4, 5, 6, 7, 8, 9] rfl rfl rfl (fun _u => mw K h a (hput M 8 (1 : Int32))) (fun _ => rfl) 0 6 rfl rfl rfl rfl hl.1 rfl (Nat.le_of_ble_eq_true rfl) (Nat.le_of_ble_eq_true rfl) (Nat.le_of_ble_eq_true rfl) dX6_without_26 (fun r26 _ H locs hq26 hP hD hS => ?_)
    have hP : va_P K.1 vwCl (mw K h a (hput M 8 (1 : Int32))) H := hP
    have hD : va_D A (mw K h a (hput M 8 (1 : Int32))) := hD
    subst hq26
    have eR1 : (1 : Int32) = nI (kWithM (M 0) p) := by exact (congrArg nI (show kWithM (M 0) p = _ from (by simp [kWithM, c_13]; done))).symm
    have hP : va_P K.1 vwCl (mw K h a (hput M 8 (nI (kWithM (M 0) p)))) H := by rw [← eR1]; exact hP
    have hD : va_D A (mw K h a (hput M 8 (nI (kWithM (M 0) p)))) := by rw [← eR1]; exact hD
    exact hend _ _ _ _ _ _ _ (M 1, M 9, M 10) hP hD hS (Nat.le_of_ble_eq_true rfl) (Nat.le_of_ble_eq_true rfl) (by first | (intro hk9; rfl; done) | (intro hk9; simp [kWithM, c_13] at hk9; done)) dX6_without_29
  · skip
    have hn2 := idx_cN hP0 (by omega) c_13
    refine lv_aload_n hx hb dX6_without_16 rfl (lv_at hl 0 rfl) ?_
    refine lv_iload_n hx hb dX6_without_17 rfl (lv_at hl 1 rfl) ?_
    rw [show p = nI (cN p) from hn2.1]
    refine xw_Vi (As := [.int (nI (cN p))]) (rest := []) (wc := mw K h a (hput M 8 (0 : Int32))) (wr := (List.filterMap (fun i => (mw K h a (hput M 8 (0 : Int32)) : va_W)[i]?) ([] : List Nat))) ⟨hx, hb, hml, hown, hts⟩ (c_X6_lacking l K h a (hput M 8 (0 : Int32)) (cN p) (by omega) R hR0 (by omega) P hP0 (by omega) (by first | assumption | omega) H.size) (cwV 1 hts gX6_without_X6_lacking rfl rfl rfl (by decide +kernel) ⟨Nat.le_of_ble_eq_true rfl, Nat.le_of_ble_eq_true rfl⟩) hK hP hD hS hA [0, 1, 2, 3, 4, 5, 6, 7, 8, 9] [] [0, 1, 2, 3, 4, 5, 6, 7, 8, 9] rfl rfl rfl (fun D18 => mw K h a (hrow (hrow (hput (hrow M 1 (mLk (M 0) (cN p))) 8 (0 : Int32)) 9 D18.1) 10 D18.2)) (fun _ => rfl) 0 6 rfl rfl rfl rfl hl.1 rfl (Nat.le_of_ble_eq_true rfl) (Nat.le_of_ble_eq_true rfl) (Nat.le_of_ble_eq_true rfl) dX6_without_18 (fun r18 D18 H locs hq18 hP hD hS => ?_)
    have hP : va_P K.1 vwCl (mw K h a (hrow (hrow (hput (hrow M 1 (mLk (M 0) (cN p))) 8 (0 : Int32)) 9 D18.1) 10 D18.2)) H := hP
    have hD : va_D A (mw K h a (hrow (hrow (hput (hrow M 1 (mLk (M 0) (cN p))) 8 (0 : Int32)) 9 D18.1) 10 D18.2)) := hD
    have hq18 : r18 = mStr (mLk (M 0) (cN p)) R P := hq18
    subst hq18
    refine lv_goto (tgt := 29) hx hb dX6_without_21 (by decide) ?_
    have eR3 : (0 : Int32) = nI (kWithM (M 0) p) := by exact (congrArg nI (show kWithM (M 0) p = _ from (by simp [kWithM, c_13]; done))).symm
    have hP : va_P K.1 vwCl (mw K h a (hrow (hrow (hput (hrow M 1 (mLk (M 0) (cN p))) 8 (nI (kWithM (M 0) p))) 9 D18.1) 10 D18.2)) H := by rw [← eR3]; exact hP
    have hD : va_D A (mw K h a (hrow (hrow (hput (hrow M 1 (mLk (M 0) (cN p))) 8 (nI (kWithM (M 0) p))) 9 D18.1) 10 D18.2)) := by rw [← eR3]; exact hD
    exact hend _ _ _ _ _ _ _ (mLk (M 0) (cN p), D18.1, D18.2) hP hD hS (Nat.le_of_ble_eq_true rfl) (Nat.le_of_ble_eq_true rfl) (by first | (intro hk9; rfl; done) | (intro hk9; simp [kWithM, c_13] at hk9; done)) dX6_without_29

abbrev rm_X6_missed : Room := { frames := 5, cells := 0, slots := 0, locals := 117 }
set_option maxHeartbeats 4000000 in
set_option maxRecDepth 100000 in
theorem c_X6_missed (l : Launch) (K : KX) (h : Nat) (a : Nat → Nat) (M : HV) (R : Nat) (hR0 : M 0 3 = nI R) (hR0b : R ≤ 6) (P : Nat) (hP0 : M 0 4 = nI P) (hP0b : P ≤ 10) (hok : mOK (M 0) R P) (sz : Nat) : Met l yX6_missed wsX6_missed rm_X6_missed (va_Pc [.ref h] (xPre K (mw K h a M) sz)) (va_Qi (fun (r9 : Int32) (u9 : (Nat → Int32) × (Nat → Int32) × (Nat → Int32)) => r9 = misM (M 0) R P) (fun u9 t => xPost K (va_A (mw K h a M) sz) (mw K h a (hput (hrow (hrow (hrow M 1 u9.1) 9 u9.2.1) 10 u9.2.2) 8 0)) t) (va_A (mw K h a M) sz)) 0 0 (va_A (mw K h a M) sz) := by
  refine xw_starti (cc := cX6_missed) (maxL := 6) (by decide) rfl (Nat.le_of_ble_eq_true rfl) ?_
  intro p9 e9 s9 m9 below9 meth9 c9 H locs ls A av9 Q9 hx hb hlocks hml hname hts hown hK hP hD hS hA hsz hend hl
  have hown : s9.vm.findClass RX6 = some m9.cls := hown
  have hl : lv_has ls 6 [(0, .ref h)] := hl
  have hi6 : ∀ w ∈ u_ws RX6 TX6 14, w ∈ wsX6_missed := by decide +kernel
  have lk42 := hts (.fieldLink RX6 42 "StandInsModel" "thrown" "I") (by decide +kernel)
  have lk7 := hts (.fieldLink RX6 7 "StandInsModel" "now" "[I") (by decide +kernel)
  refine lv_aload_n hx hb dX6_missed_0 rfl (lv_at hl 0 rfl) ?_
  refine lv_iconst (v := (0 : Int32)) hx hb dX6_missed_1 (by decide) ?_
  refine va_put (ci := 6) (v := .int (0 : Int32)) (ty := .int) (C := RX6) (T := TX6) (N := 14) hx hb hts hi6 tyX6 tyX6_ok nmX6 hown hK hP hD hS 0 rfl rfl 8 (by decide) lk42 (fun _ h9 => h9) rfl (by decide +kernel) rfl rfl (Nat.le_of_ble_eq_true rfl) dX6_missed_2 (fun H locs hP hD hS => ?_)
  have hP : va_P K.1 vwCl (mw K h a (hput M 8 (0 : Int32))) H := hP
  have hD : va_D A (mw K h a (hput M 8 (0 : Int32))) := hD
  refine lv_aload_n hx hb dX6_missed_5 rfl (lv_at hl 0 rfl) ?_
  refine va_get (ci := 6) (v := .ref (a 0)) (C := RX6) (T := TX6) (N := 14) hx hb hts hi6 hown hK hP 0 rfl rfl 0 (by decide) lk7 (fun _ h9 => h9) rfl dX6_missed_6 ?_
  refine lv_iconst (v := (3 : Int32)) hx hb dX6_missed_9 (by decide) ?_
  refine xi_ld hx hb hK hP 1 (f := M 0) rfl 3 rfl (by omega) (by decide) dX6_missed_10 ?_
  refine xn_if_eq (tgt := 25) hx hb R hR0 (by omega) dX6_missed_11 (by decide) (fun c_11 => ?_) (fun c_11 => ?_)
  · skip
    refine lv_iconst (v := (-1 : Int32)) hx hb dX6_missed_25 (by decide) ?_
    have eR1 : (0 : Int32) = 0 := by rfl
    have hP : va_P K.1 vwCl (mw K h a (hput M 8 0)) H := by rw [← eR1]; exact hP
    have hD : va_D A (mw K h a (hput M 8 0)) := by rw [← eR1]; exact hD
    exact hend _ _ _ _ _ _ _ (M 1, M 9, M 10) hP hD hS (Nat.le_of_ble_eq_true rfl) (Nat.le_of_ble_eq_true rfl) (by (unfold misM; first | exact (if_pos (Or.inl c_11)).symm | exact (if_pos (Or.inr c_22n)).symm)) dX6_missed_26
  · skip
    refine lv_aload_n hx hb dX6_missed_14 rfl (lv_at hl 0 rfl) ?_
    refine lv_aload_n hx hb dX6_missed_15 rfl (lv_at hl 0 rfl) ?_
    refine va_get (ci := 6) (v := .ref (a 0)) (C := RX6) (T := TX6) (N := 14) hx hb hts hi6 hown hK hP 0 rfl rfl 0 (by decide) lk7 (fun _ h9 => h9) rfl dX6_missed_16 ?_
    refine xw_Vi (As := [.ref (a 0)]) (rest := []) (wc := mw K h a (hput M 8 (0 : Int32))) (wr := (List.filterMap (fun i => (mw K h a (hput M 8 (0 : Int32)) : va_W)[i]?) ([] : List Nat))) ⟨hx, hb, hml, hown, hts⟩ (c_X6_casts_n l K h a (hput M 8 (0 : Int32)) R hR0 (by omega) P hP0 (by omega) (by first | assumption | omega) H.size) (cwV 1 hts gX6_missed_X6_casts rfl rfl rfl (by decide +kernel) ⟨Nat.le_of_ble_eq_true rfl, Nat.le_of_ble_eq_true rfl⟩) hK hP hD hS hA [0, 1, 2, 3, 4, 5, 6, 7, 8, 9] [] [0, 1, 2, 3, 4, 5, 6, 7, 8, 9] rfl rfl rfl (fun E19 => mw K h a (hrow (hrow (hput M 8 (0 : Int32)) 9 E19) 10 (mcR (M 0) R P (M 10) 6))) (fun _ => rfl) 0 6 rfl rfl rfl rfl hl.1 rfl (Nat.le_of_ble_eq_true rfl) (Nat.le_of_ble_eq_true rfl) (Nat.le_of_ble_eq_true rfl) dX6_missed_19 (fun r19 E19 H locs hq19 hP hD hS => ?_)
    have hP : va_P K.1 vwCl (mw K h a (hrow (hrow (hput M 8 (0 : Int32)) 9 E19) 10 (mcR (M 0) R P (M 10) 6))) H := hP
    have hD : va_D A (mw K h a (hrow (hrow (hput M 8 (0 : Int32)) 9 E19) 10 (mcR (M 0) R P (M 10) 6))) := hD
    have hq19 : r19 = mStr (M 0) R P := hq19
    subst hq19
    refine lv_if_ge (tgt := 27) hx hb dX6_missed_22 (by decide) (fun c_22 => ?_) (fun c_22 => ?_)
    · skip
      have c_22n := Int32.not_lt.mpr c_22
      refine lv_iconst (v := (-1 : Int32)) hx hb dX6_missed_27 (by decide) ?_
      refine lv_istore_n (lv' := [(1, .int (-1 : Int32)), (0, .ref h)]) hx hb dX6_missed_28 rfl hl (by decide) rfl (fun ls hl => ?_)
      refine lv_iconst (v := (0 : Int32)) hx hb dX6_missed_29 (by decide) ?_
      refine lv_istore_n (lv' := [(2, .int (0 : Int32)), (1, .int (-1 : Int32)), (0, .ref h)]) hx hb dX6_missed_30 rfl hl (by decide) rfl (fun ls hl => ?_)
      refine lv_iconst (v := (0 : Int32)) hx hb dX6_missed_31 (by decide) ?_
      refine lv_istore_n (lv' := [(3, .int (0 : Int32)), (2, .int (0 : Int32)), (1, .int (-1 : Int32)), (0, .ref h)]) hx hb dX6_missed_32 rfl hl (by decide) rfl (fun ls hl => ?_)
      have lp33 : ∀ (n9 : Nat) (k : Nat) (T : Nat → Int32) (E : Nat → Int32) (F : Nat → Int32) (H : Heap) (locs : List Loc) (ls : Array Slot), P - k < n9 → (k ≤ P) → va_P K.1 vwCl (mw K h a (hrow (hrow (hput (hrow M 1 T) 8 (0 : Int32)) 9 E) 10 F)) H → va_D A (mw K h a (hrow (hrow (hput (hrow M 1 T) 8 (0 : Int32)) 9 E) 10 F)) → va_S A s9.heap H locs → lv_has ls 6 [(0, .ref h), (1, .int (mmM (M 0) R P k).1), (2, .int (mmM (M 0) R P k).2), (3, .int (nI k))] → W p9 l e9 rm_X6_missed s9 m9 av9 below9 meth9 c9 H locs 0 0 Q9 (F0 m9 33 ls []) := by
        intro n9
        induction n9 with
        | zero => intro k T E F H locs ls hmu hk hP hD hS hl; exact absurd hmu (Nat.not_lt_zero _)
        | succ n9 ih33 =>
          intro k T E F H locs ls hmu hk hP hD hS hl
          refine lv_iload_n hx hb dX6_missed_33 rfl (lv_at hl 3 rfl) ?_
          refine lv_aload_n hx hb dX6_missed_34 rfl (lv_at hl 0 rfl) ?_
          refine va_get (ci := 6) (v := .ref (a 0)) (C := RX6) (T := TX6) (N := 14) hx hb hts hi6 hown hK hP 0 rfl rfl 0 (by decide) lk7 (fun _ h9 => h9) rfl dX6_missed_35 ?_
          refine lv_iconst (v := (4 : Int32)) hx hb dX6_missed_38 (by decide) ?_
          refine xi_ld hx hb hK hP 1 (f := M 0) rfl 4 rfl (by omega) (by decide) dX6_missed_39 ?_
          refine xn_icmp_ge (tgt := 108) hx hb k P rfl hP0 (by omega) (by omega) dX6_missed_40 (by decide) (fun c_40 => ?_) (fun c_40 => ?_)
          · skip
            have hk9 : P = k := (show k = P from by omega).symm
            subst hk9
            refine lv_iload_n hx hb dX6_missed_108 rfl (lv_at hl 1 rfl) ?_
            have eR2 : (0 : Int32) = 0 := by rfl
            have hP : va_P K.1 vwCl (mw K h a (hrow (hrow (hput (hrow M 1 T) 8 0) 9 E) 10 F)) H := by rw [← eR2]; exact hP
            have hD : va_D A (mw K h a (hrow (hrow (hput (hrow M 1 T) 8 0) 9 E) 10 F)) := by rw [← eR2]; exact hD
            exact hend _ _ _ _ _ _ _ (T, E, F) hP hD hS (Nat.le_of_ble_eq_true rfl) (Nat.le_of_ble_eq_true rfl) (by (unfold misM; exact (if_neg (fun z => z.elim c_11 c_22n)).symm)) dX6_missed_109
          · skip
            refine lv_aload_n hx hb dX6_missed_43 rfl (lv_at hl 0 rfl) ?_
            refine va_get (ci := 6) (v := .ref (a 0)) (C := RX6) (T := TX6) (N := 14) hx hb hts hi6 hown hK hP 0 rfl rfl 0 (by decide) lk7 (fun _ h9 => h9) rfl dX6_missed_44 ?_
            refine lv_iload_n hx hb dX6_missed_47 rfl (lv_at hl 3 rfl) ?_
            have hPc := P_sub (ws' := [((a 0), aI K 190 (M 0))]) hP [1] rfl
            refine xr_S (As := [.ref (a 0), .int (nI k)]) (rest := []) ⟨hx, hb, hml, hown, hts⟩ (c_X6_isFree l K (a 0) (M 0) k (by omega)) (va_cwS 2 hts gX6_missed_X6_isFree rfl rfl rfl (by decide +kernel) ⟨Nat.le_of_ble_eq_true rfl, Nat.le_of_ble_eq_true rfl⟩) hK hPc rfl hl.1 rfl (Nat.le_of_ble_eq_true rfl) (Nat.le_of_ble_eq_true rfl) (Nat.le_of_ble_eq_true rfl) dX6_missed_48 ?_
            refine xb_if_eq (tgt := 102) hx hb dX6_missed_51 (by decide) (fun c_51 => ?_) (fun c_51 => ?_)
            · skip
              refine lv_iinc (v := nI (k + 1)) (lv' := [(3, .int (nI (k + 1))), (0, .ref h), (1, .int (mmM (M 0) R P k).1), (2, .int (mmM (M 0) R P k).2)]) hx hb dX6_missed_102 hl (k := 3) rfl (nI_1 _) (by decide) rfl (fun ls hl => ?_)
              refine lv_goto (tgt := 33) hx hb dX6_missed_105 (by decide) ?_
              exact ih33 (k + 1) T E F _ _ _ (by omega) (by first | omega | assumption | first | (simp only [mmM, if_neg c_51]; done) | (simp only [mmM, if_pos c_51, if_pos hp]; done) | (simp only [mmM, if_pos c_51, if_neg hn]; done)) hP hD hS (lv_cons (lv_at hl 1 rfl) (lv_cons (lv_is (lv_at hl 2 rfl) (show (mmM (M 0) R P k).1 = (mmM (M 0) R P (k + 1)).1 by first | (simp only [mmM, if_neg c_51]; done) | (simp only [mmM, if_pos c_51, if_pos hp]; done) | (simp only [mmM, if_pos c_51, if_neg hn]; done))) (lv_cons (lv_is (lv_at hl 3 rfl) (show (mmM (M 0) R P k).2 = (mmM (M 0) R P (k + 1)).2 by first | (simp only [mmM, if_neg c_51]; done) | (simp only [mmM, if_pos c_51, if_pos hp]; done) | (simp only [mmM, if_pos c_51, if_neg hn]; done))) (lv_cons (lv_at hl 0 rfl) (lv_nil hl)))))
            · skip
              refine lv_aload_n hx hb dX6_missed_54 rfl (lv_at hl 0 rfl) ?_
              refine lv_iload_n hx hb dX6_missed_55 rfl (lv_at hl 3 rfl) ?_
              refine xw_Vi (As := [.int (nI k)]) (rest := []) (wc := mw K h a (hrow (hrow (hput (hrow M 1 T) 8 (0 : Int32)) 9 E) 10 F)) (wr := (List.filterMap (fun i => (mw K h a (hrow (hrow (hput (hrow M 1 T) 8 (0 : Int32)) 9 E) 10 F) : va_W)[i]?) ([] : List Nat))) ⟨hx, hb, hml, hown, hts⟩ (c_X6_lacking l K h a (hrow (hrow (hput (hrow M 1 T) 8 (0 : Int32)) 9 E) 10 F) k (by omega) R hR0 (by omega) P hP0 (by omega) (by first | assumption | omega) H.size) (cwV 1 hts gX6_missed_X6_lacking rfl rfl rfl (by decide +kernel) ⟨Nat.le_of_ble_eq_true rfl, Nat.le_of_ble_eq_true rfl⟩) hK hP hD hS hA [0, 1, 2, 3, 4, 5, 6, 7, 8, 9] [] [0, 1, 2, 3, 4, 5, 6, 7, 8, 9] rfl rfl rfl (fun D56 => mw K h a (hrow (hrow (hput (hrow M 1 (mLk (M 0) k)) 8 (0 : Int32)) 9 D56.1) 10 D56.2)) (fun _ => rfl) 0 6 rfl rfl rfl rfl hl.1 rfl (Nat.le_of_ble_eq_true rfl) (Nat.le_of_ble_eq_true rfl) (Nat.le_of_ble_eq_true rfl) dX6_missed_56 (fun r56 D56 H locs hq56 hP hD hS => ?_)
              have hP : va_P K.1 vwCl (mw K h a (hrow (hrow (hput (hrow M 1 (mLk (M 0) k)) 8 (0 : Int32)) 9 D56.1) 10 D56.2)) H := hP
              have hD : va_D A (mw K h a (hrow (hrow (hput (hrow M 1 (mLk (M 0) k)) 8 (0 : Int32)) 9 D56.1) 10 D56.2)) := hD
              have hq56 : r56 = mStr (mLk (M 0) k) R P := hq56
              subst hq56
              refine lv_istore (lv' := [(4, .int (mStr (mLk (M 0) k) R P)), (0, .ref h), (1, .int (mmM (M 0) R P k).1), (2, .int (mmM (M 0) R P k).2), (3, .int (nI k))]) hx hb dX6_missed_59 hl (by decide) rfl (fun ls hl => ?_)
              refine lv_iload_n hx hb dX6_missed_61 rfl (lv_at hl 2 rfl) ?_
              refine lv_iconst (v := (-1 : Int32)) hx hb dX6_missed_62 (by decide) ?_
              refine lv_icmp_eq (tgt := 72) hx hb dX6_missed_63 (by decide) (fun c_63 => ?_) (fun c_63 => ?_)
              · skip
                have hp : (mmM (M 0) R P k).1 = -1 ∨ mStr (mLk (M 0) k) R P < (mmM (M 0) R P k).2 := Or.inl c_63
                refine lv_iconst (v := (1 : Int32)) hx hb dX6_missed_72 (by decide) ?_
                refine lv_goto (tgt := 77) hx hb dX6_missed_73 (by decide) ?_
                refine lv_istore (lv' := [(5, .int (1 : Int32)), (4, .int (mStr (mLk (M 0) k) R P)), (0, .ref h), (1, .int (mmM (M 0) R P k).1), (2, .int (mmM (M 0) R P k).2), (3, .int (nI k))]) hx hb dX6_missed_77 hl (by decide) rfl (fun ls hl => ?_)
                refine lv_iload hx hb dX6_missed_79 (lv_at hl 0 rfl) ?_
                refine lv_if_eq (tgt := 88) hx hb dX6_missed_81 (by decide) (fun c_81 => ?_) (fun c_81 => ?_)
                · exact absurd c_81 (by decide)
                refine lv_iload_n hx hb dX6_missed_84 rfl (lv_at hl 5 rfl) ?_
                refine lv_goto (tgt := 89) hx hb dX6_missed_85 (by decide) ?_
                refine lv_istore_n (lv' := [(1, .int (nI k)), (5, .int (1 : Int32)), (4, .int (mStr (mLk (M 0) k) R P)), (0, .ref h), (2, .int (mmM (M 0) R P k).2), (3, .int (nI k))]) hx hb dX6_missed_89 rfl hl (by decide) rfl (fun ls hl => ?_)
                refine lv_iload hx hb dX6_missed_90 (lv_at hl 1 rfl) ?_
                refine lv_if_eq (tgt := 100) hx hb dX6_missed_92 (by decide) (fun c_92 => ?_) (fun c_92 => ?_)
                · exact absurd c_92 (by decide)
                refine lv_iload hx hb dX6_missed_95 (lv_at hl 2 rfl) ?_
                refine lv_goto (tgt := 101) hx hb dX6_missed_97 (by decide) ?_
                refine lv_istore_n (lv' := [(2, .int (mStr (mLk (M 0) k) R P)), (1, .int (nI k)), (5, .int (1 : Int32)), (4, .int (mStr (mLk (M 0) k) R P)), (0, .ref h), (3, .int (nI k))]) hx hb dX6_missed_101 rfl hl (by decide) rfl (fun ls hl => ?_)
                refine lv_iinc (v := nI (k + 1)) (lv' := [(3, .int (nI (k + 1))), (2, .int (mStr (mLk (M 0) k) R P)), (1, .int (nI k)), (5, .int (1 : Int32)), (4, .int (mStr (mLk (M 0) k) R P)), (0, .ref h)]) hx hb dX6_missed_102 hl (k := 5) rfl (nI_1 _) (by decide) rfl (fun ls hl => ?_)
                refine lv_goto (tgt := 33) hx hb dX6_missed_105 (by decide) ?_
                exact ih33 (k + 1) (mLk (M 0) k) D56.1 D56.2 _ _ _ (by omega) (by first | omega | assumption | first | (simp only [mmM, if_neg c_51]; done) | (simp only [mmM, if_pos c_51, if_pos hp]; done) | (simp only [mmM, if_pos c_51, if_neg hn]; done)) hP hD hS (lv_cons (lv_at hl 5 rfl) (lv_cons (lv_is (lv_at hl 2 rfl) (show nI k = (mmM (M 0) R P (k + 1)).1 by first | (simp only [mmM, if_neg c_51]; done) | (simp only [mmM, if_pos c_51, if_pos hp]; done) | (simp only [mmM, if_pos c_51, if_neg hn]; done))) (lv_cons (lv_is (lv_at hl 1 rfl) (show mStr (mLk (M 0) k) R P = (mmM (M 0) R P (k + 1)).2 by first | (simp only [mmM, if_neg c_51]; done) | (simp only [mmM, if_pos c_51, if_pos hp]; done) | (simp only [mmM, if_pos c_51, if_neg hn]; done))) (lv_cons (lv_at hl 0 rfl) (lv_nil hl)))))
              · skip
                refine lv_iload hx hb dX6_missed_66 (lv_at hl 0 rfl) ?_
                refine lv_iload_n hx hb dX6_missed_68 rfl (lv_at hl 3 rfl) ?_
                refine lv_icmp_ge (tgt := 76) hx hb dX6_missed_69 (by decide) (fun c_69 => ?_) (fun c_69 => ?_)
                · skip
                  have c_69n := Int32.not_lt.mpr c_69
                  have hn : ¬ ((mmM (M 0) R P k).1 = -1 ∨ mStr (mLk (M 0) k) R P < (mmM (M 0) R P k).2) := fun z => z.elim c_63 c_69n
                  refine lv_iconst (v := (0 : Int32)) hx hb dX6_missed_76 (by decide) ?_
                  refine lv_istore (lv' := [(5, .int (0 : Int32)), (4, .int (mStr (mLk (M 0) k) R P)), (0, .ref h), (1, .int (mmM (M 0) R P k).1), (2, .int (mmM (M 0) R P k).2), (3, .int (nI k))]) hx hb dX6_missed_77 hl (by decide) rfl (fun ls hl => ?_)
                  refine lv_iload hx hb dX6_missed_79 (lv_at hl 0 rfl) ?_
                  refine lv_if_eq (tgt := 88) hx hb dX6_missed_81 (by decide) (fun c_81 => ?_) (fun c_81 => ?_)
                  rotate_left
                  · exact absurd (by decide) c_81
                  refine lv_iload_n hx hb dX6_missed_88 rfl (lv_at hl 3 rfl) ?_
                  refine lv_istore_n (lv' := [(1, .int (mmM (M 0) R P k).1), (5, .int (0 : Int32)), (4, .int (mStr (mLk (M 0) k) R P)), (0, .ref h), (2, .int (mmM (M 0) R P k).2), (3, .int (nI k))]) hx hb dX6_missed_89 rfl hl (by decide) rfl (fun ls hl => ?_)
                  refine lv_iload hx hb dX6_missed_90 (lv_at hl 1 rfl) ?_
                  refine lv_if_eq (tgt := 100) hx hb dX6_missed_92 (by decide) (fun c_92 => ?_) (fun c_92 => ?_)
                  rotate_left
                  · exact absurd (by decide) c_92
                  refine lv_iload_n hx hb dX6_missed_100 rfl (lv_at hl 4 rfl) ?_
                  refine lv_istore_n (lv' := [(2, .int (mmM (M 0) R P k).2), (1, .int (mmM (M 0) R P k).1), (5, .int (0 : Int32)), (4, .int (mStr (mLk (M 0) k) R P)), (0, .ref h), (3, .int (nI k))]) hx hb dX6_missed_101 rfl hl (by decide) rfl (fun ls hl => ?_)
                  refine lv_iinc (v := nI (k + 1)) (lv' := [(3, .int (nI (k + 1))), (2, .int (mmM (M 0) R P k).2), (1, .int (mmM (M 0) R P k).1), (5, .int (0 : Int32)), (4, .int (mStr (mLk (M 0) k) R P)), (0, .ref h)]) hx hb dX6_missed_102 hl (k := 5) rfl (nI_1 _) (by decide) rfl (fun ls hl => ?_)
                  refine lv_goto (tgt := 33) hx hb dX6_missed_105 (by decide) ?_
                  exact ih33 (k + 1) (mLk (M 0) k) D56.1 D56.2 _ _ _ (by omega) (by first | omega | assumption | first | (simp only [mmM, if_neg c_51]; done) | (simp only [mmM, if_pos c_51, if_pos hp]; done) | (simp only [mmM, if_pos c_51, if_neg hn]; done)) hP hD hS (lv_cons (lv_at hl 5 rfl) (lv_cons (lv_is (lv_at hl 2 rfl) (show (mmM (M 0) R P k).1 = (mmM (M 0) R P (k + 1)).1 by first | (simp only [mmM, if_neg c_51]; done) | (simp only [mmM, if_pos c_51, if_pos hp]; done) | (simp only [mmM, if_pos c_51, if_neg hn]; done))) (lv_cons (lv_is (lv_at hl 1 rfl) (show (mmM (M 0) R P k).2 = (mmM (M 0) R P (k + 1)).2 by first | (simp only [mmM, if_neg c_51]; done) | (simp only [mmM, if_pos c_51, if_pos hp]; done) | (simp only [mmM, if_pos c_51, if_neg hn]; done))) (lv_cons (lv_at hl 0 rfl) (lv_nil hl)))))
                · skip
                  have c_69n := Int32.not_le.mp c_69
                  have hp : (mmM (M 0) R P k).1 = -1 ∨ mStr (mLk (M 0) k) R P < (mmM (M 0) R P k).2 := Or.inr c_69n
                  refine lv_iconst (v := (1 : Int32)) hx hb dX6_missed_72 (by decide) ?_
                  refine lv_goto (tgt := 77) hx hb dX6_missed_73 (by decide) ?_
                  refine lv_istore (lv' := [(5, .int (1 : Int32)), (4, .int (mStr (mLk (M 0) k) R P)), (0, .ref h), (1, .int (mmM (M 0) R P k).1), (2, .int (mmM (M 0) R P k).2), (3, .int (nI k))]) hx hb dX6_missed_77 hl (by decide) rfl (fun ls hl => ?_)
                  refine lv_iload hx hb dX6_missed_79 (lv_at hl 0 rfl) ?_
                  refine lv_if_eq (tgt := 88) hx hb dX6_missed_81 (by decide) (fun c_81 => ?_) (fun c_81 => ?_)
                  · exact absurd c_81 (by decide)
                  refine lv_iload_n hx hb dX6_missed_84 rfl (lv_at hl 5 rfl) ?_
                  refine lv_goto (tgt := 89) hx hb dX6_missed_85 (by decide) ?_
                  refine lv_istore_n (lv' := [(1, .int (nI k)), (5, .int (1 : Int32)), (4, .int (mStr (mLk (M 0) k) R P)), (0, .ref h), (2, .int (mmM (M 0) R P k).2), (3, .int (nI k))]) hx hb dX6_missed_89 rfl hl (by decide) rfl (fun ls hl => ?_)
                  refine lv_iload hx hb dX6_missed_90 (lv_at hl 1 rfl) ?_
                  refine lv_if_eq (tgt := 100) hx hb dX6_missed_92 (by decide) (fun c_92 => ?_) (fun c_92 => ?_)
                  · exact absurd c_92 (by decide)
                  refine lv_iload hx hb dX6_missed_95 (lv_at hl 2 rfl) ?_
                  refine lv_goto (tgt := 101) hx hb dX6_missed_97 (by decide) ?_
                  refine lv_istore_n (lv' := [(2, .int (mStr (mLk (M 0) k) R P)), (1, .int (nI k)), (5, .int (1 : Int32)), (4, .int (mStr (mLk (M 0) k) R P)), (0, .ref h), (3, .int (nI k))]) hx hb dX6_missed_101 rfl hl (by decide) rfl (fun ls hl => ?_)
                  refine lv_iinc (v := nI (k + 1)) (lv' := [(3, .int (nI (k + 1))), (2, .int (mStr (mLk (M 0) k) R P)), (1, .int (nI k)), (5, .int (1 : Int32)), (4, .int (mStr (mLk (M 0) k) R P)), (0, .ref h)]) hx hb dX6_missed_102 hl (k := 5) rfl (nI_1 _) (by decide) rfl (fun ls hl => ?_)
                  refine lv_goto (tgt := 33) hx hb dX6_missed_105 (by decide) ?_
                  exact ih33 (k + 1) (mLk (M 0) k) D56.1 D56.2 _ _ _ (by omega) (by first | omega | assumption | first | (simp only [mmM, if_neg c_51]; done) | (simp only [mmM, if_pos c_51, if_pos hp]; done) | (simp only [mmM, if_pos c_51, if_neg hn]; done)) hP hD hS (lv_cons (lv_at hl 5 rfl) (lv_cons (lv_is (lv_at hl 2 rfl) (show nI k = (mmM (M 0) R P (k + 1)).1 by first | (simp only [mmM, if_neg c_51]; done) | (simp only [mmM, if_pos c_51, if_pos hp]; done) | (simp only [mmM, if_pos c_51, if_neg hn]; done))) (lv_cons (lv_is (lv_at hl 1 rfl) (show mStr (mLk (M 0) k) R P = (mmM (M 0) R P (k + 1)).2 by first | (simp only [mmM, if_neg c_51]; done) | (simp only [mmM, if_pos c_51, if_pos hp]; done) | (simp only [mmM, if_pos c_51, if_neg hn]; done))) (lv_cons (lv_at hl 0 rfl) (lv_nil hl)))))
      have hP : va_P K.1 vwCl (mw K h a (hrow (hrow (hput (hrow M 1 (M 1)) 8 (0 : Int32)) 9 E19) 10 (mcR (M 0) R P (M 10) 6))) H := hP
      have hD : va_D A (mw K h a (hrow (hrow (hput (hrow M 1 (M 1)) 8 (0 : Int32)) 9 E19) 10 (mcR (M 0) R P (M 10) 6))) := hD
      exact lp33 _ 0 (M 1) E19 (mcR (M 0) R P (M 10) 6) _ _ _ (Nat.lt_succ_self _) (by first | omega | assumption | first | rfl | (simp [c_11, c_22, c_22n]; done) | omega) hP hD hS (lv_cons (lv_at hl 3 rfl) (lv_cons (lv_is (lv_at hl 2 rfl) (show (-1 : Int32) = (mmM (M 0) R P 0).1 by rfl)) (lv_cons (lv_is (lv_at hl 1 rfl) (show (0 : Int32) = (mmM (M 0) R P 0).2 by rfl)) (lv_cons (lv_is (lv_at hl 0 rfl) (show (0 : Int32) = nI 0 by rfl)) (lv_nil hl)))))
    · skip
      have c_22n := Int32.not_le.mp c_22
      refine lv_iconst (v := (-1 : Int32)) hx hb dX6_missed_25 (by decide) ?_
      have eR3 : (0 : Int32) = 0 := by rfl
      have hP : va_P K.1 vwCl (mw K h a (hrow (hrow (hput M 8 0) 9 E19) 10 (mcR (M 0) R P (M 10) 6))) H := by rw [← eR3]; exact hP
      have hD : va_D A (mw K h a (hrow (hrow (hput M 8 0) 9 E19) 10 (mcR (M 0) R P (M 10) 6))) := by rw [← eR3]; exact hD
      exact hend _ _ _ _ _ _ _ (M 1, E19, mcR (M 0) R P (M 10) 6) hP hD hS (Nat.le_of_ble_eq_true rfl) (Nat.le_of_ble_eq_true rfl) (by (unfold misM; first | exact (if_pos (Or.inl c_11)).symm | exact (if_pos (Or.inr c_22n)).symm)) dX6_missed_26

abbrev rm_X6_coming : Room := { frames := 5, cells := 0, slots := 0, locals := 123 }
set_option maxHeartbeats 4000000 in
set_option maxRecDepth 100000 in
theorem c_X6_coming (l : Launch) (K : KX) (h : Nat) (a : Nat → Nat) (M : HV) (n : Int32) (R : Nat) (hR0 : M 0 3 = nI R) (hR0b : R ≤ 6) (P : Nat) (hP0 : M 0 4 = nI P) (hP0b : P ≤ 10) (hmo : ∀ k, k < 30 → mOK (mPn (M 0) R P k) R P) (sz : Nat) : Met l yX6_coming wsX6_coming rm_X6_coming (va_Pc [.ref h, .int n] (xPre K (mw K h a M) sz)) (va_Qi (fun (r9 : Int32) (u9 : (Nat → Int32) × (Nat → Int32) × (Nat → Int32)) => kComM R n = 0 → r9 = dyM (M 0) R P (cN n)) (fun u9 t => xPost K (va_A (mw K h a M) sz) (mw K h a (hput (hrow (hrow (hrow M 1 u9.1) 9 u9.2.1) 10 u9.2.2) 8 (nI (kComM R n)))) t) (va_A (mw K h a M) sz)) 0 0 (va_A (mw K h a M) sz) := by
  refine xw_starti (cc := cX6_coming) (maxL := 4) (by decide) rfl (Nat.le_of_ble_eq_true rfl) ?_
  intro p9 e9 s9 m9 below9 meth9 c9 H locs ls A av9 Q9 hx hb hlocks hml hname hts hown hK hP hD hS hA hsz hend hl
  have hown : s9.vm.findClass RX6 = some m9.cls := hown
  have hl : lv_has ls 4 [(0, .ref h), (1, .int n)] := hl
  have hi6 : ∀ w ∈ u_ws RX6 TX6 14, w ∈ wsX6_coming := by decide +kernel
  have lk42 := hts (.fieldLink RX6 42 "StandInsModel" "thrown" "I") (by decide +kernel)
  have lk7 := hts (.fieldLink RX6 7 "StandInsModel" "now" "[I") (by decide +kernel)
  have lk13 := hts (.fieldLink RX6 13 "StandInsModel" "trial" "[I") (by decide +kernel)
  refine lv_aload_n hx hb dX6_coming_0 rfl (lv_at hl 0 rfl) ?_
  refine lv_iconst (v := (0 : Int32)) hx hb dX6_coming_1 (by decide) ?_
  refine va_put (ci := 6) (v := .int (0 : Int32)) (ty := .int) (C := RX6) (T := TX6) (N := 14) hx hb hts hi6 tyX6 tyX6_ok nmX6 hown hK hP hD hS 0 rfl rfl 8 (by decide) lk42 (fun _ h9 => h9) rfl (by decide +kernel) rfl rfl (Nat.le_of_ble_eq_true rfl) dX6_coming_2 (fun H locs hP hD hS => ?_)
  have hP : va_P K.1 vwCl (mw K h a (hput M 8 (0 : Int32))) H := hP
  have hD : va_D A (mw K h a (hput M 8 (0 : Int32))) := hD
  refine lv_iload_n hx hb dX6_coming_5 rfl (lv_at hl 1 rfl) ?_
  refine lv_iconst (v := (1 : Int32)) hx hb dX6_coming_6 (by decide) ?_
  refine lv_bipush (v := (30 : Int32)) hx hb dX6_coming_7 (by decide) ?_
  have hPc := P_sub (ws' := []) hP [] rfl
  refine xr_S (As := [.int n, .int (1 : Int32), .int (30 : Int32)]) (rest := []) ⟨hx, hb, hml, hown, hts⟩ (c_X6_in l K n (1 : Int32) (30 : Int32)) (va_cwS 3 hts gX6_coming_X6_in rfl rfl rfl (by decide +kernel) ⟨Nat.le_of_ble_eq_true rfl, Nat.le_of_ble_eq_true rfl⟩) hK hPc rfl hl.1 rfl (Nat.le_of_ble_eq_true rfl) (Nat.le_of_ble_eq_true rfl) (Nat.le_of_ble_eq_true rfl) dX6_coming_9 ?_
  refine xb_if_ne (tgt := 21) hx hb dX6_coming_12 (by decide) (fun c_12 => ?_) (fun c_12 => ?_)
  · skip
    have hn1 := rng_cN (lo := 1) (hi := 30) c_12 (by decide)
    refine lv_aload_n hx hb dX6_coming_21 rfl (lv_at hl 0 rfl) ?_
    refine va_get (ci := 6) (v := .ref (a 0)) (C := RX6) (T := TX6) (N := 14) hx hb hts hi6 hown hK hP 0 rfl rfl 0 (by decide) lk7 (fun _ h9 => h9) rfl dX6_coming_22 ?_
    refine lv_iconst (v := (3 : Int32)) hx hb dX6_coming_25 (by decide) ?_
    refine xi_ld hx hb hK hP 1 (f := M 0) rfl 3 rfl (by omega) (by decide) dX6_coming_26 ?_
    refine xn_if_ne (tgt := 36) hx hb R hR0 (by omega) dX6_coming_27 (by decide) (fun c_27 => ?_) (fun c_27 => ?_)
    · skip
      refine lv_aload_n hx hb dX6_coming_36 rfl (lv_at hl 0 rfl) ?_
      refine xw_Vv (As := []) (rest := []) (wc := mw K h a (hput M 8 (0 : Int32))) (wr := (List.filterMap (fun i => (mw K h a (hput M 8 (0 : Int32)) : va_W)[i]?) ([] : List Nat))) ⟨hx, hb, hml, hown, hts⟩ (c_X6_tries l K h a (hput M 8 (0 : Int32)) H.size) (cwV 0 hts gX6_coming_X6_tries rfl rfl rfl (by decide +kernel) ⟨Nat.le_of_ble_eq_true rfl, Nat.le_of_ble_eq_true rfl⟩) hK hP hD hS hA [0, 1, 2, 3, 4, 5, 6, 7, 8, 9] [] [0, 1, 2, 3, 4, 5, 6, 7, 8, 9] rfl rfl rfl (fun _u => mw K h a (hput (hrow M 1 (M 0)) 8 (0 : Int32))) (fun _ => rfl) 0 6 rfl rfl rfl rfl hl.1 rfl (Nat.le_of_ble_eq_true rfl) (Nat.le_of_ble_eq_true rfl) (Nat.le_of_ble_eq_true rfl) dX6_coming_37 (fun _ H locs hq37 hP hD hS => ?_)
      have hP : va_P K.1 vwCl (mw K h a (hput (hrow M 1 (M 0)) 8 (0 : Int32))) H := hP
      have hD : va_D A (mw K h a (hput (hrow M 1 (M 0)) 8 (0 : Int32))) := hD
      refine lv_iconst (v := (0 : Int32)) hx hb dX6_coming_40 (by decide) ?_
      refine lv_istore_n (lv' := [(2, .int (0 : Int32)), (0, .ref h), (1, .int n)]) hx hb dX6_coming_41 rfl hl (by decide) rfl (fun ls hl => ?_)
      refine lv_iconst (v := (0 : Int32)) hx hb dX6_coming_42 (by decide) ?_
      refine lv_istore_n (lv' := [(3, .int (0 : Int32)), (2, .int (0 : Int32)), (0, .ref h), (1, .int n)]) hx hb dX6_coming_43 rfl hl (by decide) rfl (fun ls hl => ?_)
      have lp44 : ∀ (n9 : Nat) (k : Nat) (E : Nat → Int32) (F : Nat → Int32) (H : Heap) (locs : List Loc) (ls : Array Slot), cN n - k < n9 → (k ≤ cN n) → va_P K.1 vwCl (mw K h a (hrow (hrow (hput (hrow M 1 (mPn (M 0) R P k)) 8 (0 : Int32)) 9 E) 10 F)) H → va_D A (mw K h a (hrow (hrow (hput (hrow M 1 (mPn (M 0) R P k)) 8 (0 : Int32)) 9 E) 10 F)) → va_S A s9.heap H locs → lv_has ls 4 [(0, .ref h), (1, .int n), (2, .int (dyM (M 0) R P k)), (3, .int (nI k))] → W p9 l e9 rm_X6_coming s9 m9 av9 below9 meth9 c9 H locs 0 0 Q9 (F0 m9 44 ls []) := by
        intro n9
        induction n9 with
        | zero => intro k E F H locs ls hmu hk hP hD hS hl; exact absurd hmu (Nat.not_lt_zero _)
        | succ n9 ih44 =>
          intro k E F H locs ls hmu hk hP hD hS hl
          refine lv_iload_n hx hb dX6_coming_44 rfl (lv_at hl 3 rfl) ?_
          refine lv_iload_n hx hb dX6_coming_45 rfl (lv_at hl 1 rfl) ?_
          refine xn_icmp_ge (tgt := 77) hx hb k (cN n) rfl hn1.1 (by omega) (by omega) dX6_coming_46 (by decide) (fun c_46 => ?_) (fun c_46 => ?_)
          · skip
            have hk9 : (cN n) = k := (show k = (cN n) from by omega).symm
            subst hk9
            refine lv_iload_n hx hb dX6_coming_77 rfl (lv_at hl 2 rfl) ?_
            have eR2 : (0 : Int32) = nI (kComM R n) := by exact (congrArg nI (show kComM R n = _ from (by simp [kComM, c_12, c_27, c_46]; done))).symm
            have hP : va_P K.1 vwCl (mw K h a (hrow (hrow (hput (hrow M 1 (mPn (M 0) R P (cN n))) 8 (nI (kComM R n))) 9 E) 10 F)) H := by rw [← eR2]; exact hP
            have hD : va_D A (mw K h a (hrow (hrow (hput (hrow M 1 (mPn (M 0) R P (cN n))) 8 (nI (kComM R n))) 9 E) 10 F)) := by rw [← eR2]; exact hD
            exact hend _ _ _ _ _ _ _ (mPn (M 0) R P (cN n), E, F) hP hD hS (Nat.le_of_ble_eq_true rfl) (Nat.le_of_ble_eq_true rfl) (by first | (intro hk9; rfl; done) | (intro hk9; simp [kComM, c_12, c_27, c_46] at hk9; done)) dX6_coming_78
          · skip
            refine lv_iload_n hx hb dX6_coming_49 rfl (lv_at hl 2 rfl) ?_
            refine lv_aload_n hx hb dX6_coming_50 rfl (lv_at hl 0 rfl) ?_
            refine lv_aload_n hx hb dX6_coming_51 rfl (lv_at hl 0 rfl) ?_
            refine va_get (ci := 6) (v := .ref (a 1)) (C := RX6) (T := TX6) (N := 14) hx hb hts hi6 hown hK hP 0 rfl rfl 1 (by decide) lk13 (fun _ h9 => h9) rfl dX6_coming_52 ?_
            refine xw_Vi (As := [.ref (a 1)]) (rest := [.int (dyM (M 0) R P k)]) (wc := mw K h a (hrow (hrow (hput (hrow M 1 (mPn (M 0) R P k)) 8 (0 : Int32)) 9 E) 10 F)) (wr := (List.filterMap (fun i => (mw K h a (hrow (hrow (hput (hrow M 1 (mPn (M 0) R P k)) 8 (0 : Int32)) 9 E) 10 F) : va_W)[i]?) ([] : List Nat))) ⟨hx, hb, hml, hown, hts⟩ (c_X6_plays_t l K h a (hrow (hrow (hput (hrow M 1 (mPn (M 0) R P k)) 8 (0 : Int32)) 9 E) 10 F) R (km_pn (by decide) hR0) (by omega) P (km_pn (by decide) hP0) (by omega) (hmo k (by omega)) H.size) (cwV 1 hts gX6_coming_X6_plays rfl rfl rfl (by decide +kernel) ⟨Nat.le_of_ble_eq_true rfl, Nat.le_of_ble_eq_true rfl⟩) hK hP hD hS hA [0, 1, 2, 3, 4, 5, 6, 7, 8, 9] [] [0, 1, 2, 3, 4, 5, 6, 7, 8, 9] rfl rfl rfl (fun E55 => mw K h a (hrow (hrow (hput (hrow M 1 (mPlay ((mPn (M 0) R P k)) R P)) 8 (0 : Int32)) 9 E55) 10 (mcR ((mPn (M 0) R P k)) R P ((F)) 6))) (fun _ => rfl) 0 6 rfl rfl rfl rfl hl.1 rfl (Nat.le_of_ble_eq_true rfl) (Nat.le_of_ble_eq_true rfl) (Nat.le_of_ble_eq_true rfl) dX6_coming_55 (fun r55 E55 H locs hq55 hP hD hS => ?_)
            have hP : va_P K.1 vwCl (mw K h a (hrow (hrow (hput (hrow M 1 (mPlay ((mPn (M 0) R P k)) R P)) 8 (0 : Int32)) 9 E55) 10 (mcR ((mPn (M 0) R P k)) R P ((F)) 6))) H := hP
            have hD : va_D A (mw K h a (hrow (hrow (hput (hrow M 1 (mPlay ((mPn (M 0) R P k)) R P)) 8 (0 : Int32)) 9 E55) 10 (mcR ((mPn (M 0) R P k)) R P ((F)) 6))) := hD
            have hq55 : r55 = mPaid ((mPn (M 0) R P k)) R P := hq55
            subst hq55
            refine lv_iconst (v := (-1 : Int32)) hx hb dX6_coming_58 (by decide) ?_
            refine lv_icmp_ne (tgt := 66) hx hb dX6_coming_59 (by decide) (fun c_59 => ?_) (fun c_59 => ?_)
            · skip
              refine lv_iconst (v := (1 : Int32)) hx hb dX6_coming_66 (by decide) ?_
              refine lv_iload_n hx hb dX6_coming_67 rfl (lv_at hl 3 rfl) ?_
              refine lv_ishl hx hb dX6_coming_68 ?_
              refine lv_ior hx hb dX6_coming_69 ?_
              refine lv_istore_n (lv' := [(2, .int ((dyM (M 0) R P k) ||| ((1 : Int32) <<< ((nI k) &&& 31)))), (0, .ref h), (1, .int n), (3, .int (nI k))]) hx hb dX6_coming_70 rfl hl (by decide) rfl (fun ls hl => ?_)
              refine lv_iinc (v := nI (k + 1)) (lv' := [(3, .int (nI (k + 1))), (2, .int ((dyM (M 0) R P k) ||| ((1 : Int32) <<< ((nI k) &&& 31)))), (0, .ref h), (1, .int n)]) hx hb dX6_coming_71 hl (k := 3) rfl (nI_1 _) (by decide) rfl (fun ls hl => ?_)
              refine lv_goto (tgt := 44) hx hb dX6_coming_74 (by decide) ?_
              have eR3 : (mPlay ((mPn (M 0) R P k)) R P) = mPn (M 0) R P (k + 1) := by rfl
              rw [eR3] at hP hD
              have hP : va_P K.1 vwCl (mw K h a (hrow (hrow (hput (hrow M 1 (mPn (M 0) R P (k + 1))) 8 (0 : Int32)) 9 E55) 10 (mcR ((mPn (M 0) R P k)) R P ((F)) 6))) H := hP
              have hD : va_D A (mw K h a (hrow (hrow (hput (hrow M 1 (mPn (M 0) R P (k + 1))) 8 (0 : Int32)) 9 E55) 10 (mcR ((mPn (M 0) R P k)) R P ((F)) 6))) := hD
              exact ih44 (k + 1) E55 (mcR ((mPn (M 0) R P k)) R P ((F)) 6) _ _ _ (by omega) (by first | omega | assumption | first | rfl | (simp [c_12, c_27, c_46, c_59]; done) | omega) hP hD hS (lv_cons (lv_at hl 2 rfl) (lv_cons (lv_at hl 3 rfl) (lv_cons (lv_is (lv_at hl 1 rfl) (show (dyM (M 0) R P k) ||| ((1 : Int32) <<< ((nI k) &&& 31)) = dyM (M 0) R P (k + 1) by (rw [dyM]; first | rw [if_pos c_59] | rw [if_neg c_59]))) (lv_cons (lv_at hl 0 rfl) (lv_nil hl)))))
            · skip
              refine lv_iconst (v := (0 : Int32)) hx hb dX6_coming_62 (by decide) ?_
              refine lv_goto (tgt := 69) hx hb dX6_coming_63 (by decide) ?_
              refine lv_ior hx hb dX6_coming_69 ?_
              refine lv_istore_n (lv' := [(2, .int ((dyM (M 0) R P k) ||| (0 : Int32))), (0, .ref h), (1, .int n), (3, .int (nI k))]) hx hb dX6_coming_70 rfl hl (by decide) rfl (fun ls hl => ?_)
              refine lv_iinc (v := nI (k + 1)) (lv' := [(3, .int (nI (k + 1))), (2, .int ((dyM (M 0) R P k) ||| (0 : Int32))), (0, .ref h), (1, .int n)]) hx hb dX6_coming_71 hl (k := 3) rfl (nI_1 _) (by decide) rfl (fun ls hl => ?_)
              refine lv_goto (tgt := 44) hx hb dX6_coming_74 (by decide) ?_
              have eR4 : (mPlay ((mPn (M 0) R P k)) R P) = mPn (M 0) R P (k + 1) := by rfl
              rw [eR4] at hP hD
              have hP : va_P K.1 vwCl (mw K h a (hrow (hrow (hput (hrow M 1 (mPn (M 0) R P (k + 1))) 8 (0 : Int32)) 9 E55) 10 (mcR ((mPn (M 0) R P k)) R P ((F)) 6))) H := hP
              have hD : va_D A (mw K h a (hrow (hrow (hput (hrow M 1 (mPn (M 0) R P (k + 1))) 8 (0 : Int32)) 9 E55) 10 (mcR ((mPn (M 0) R P k)) R P ((F)) 6))) := hD
              exact ih44 (k + 1) E55 (mcR ((mPn (M 0) R P k)) R P ((F)) 6) _ _ _ (by omega) (by first | omega | assumption | first | rfl | (simp [c_12, c_27, c_46, c_59]; done) | omega) hP hD hS (lv_cons (lv_at hl 2 rfl) (lv_cons (lv_at hl 3 rfl) (lv_cons (lv_is (lv_at hl 1 rfl) (show (dyM (M 0) R P k) ||| (0 : Int32) = dyM (M 0) R P (k + 1) by (rw [dyM]; first | rw [if_pos c_59] | rw [if_neg c_59]))) (lv_cons (lv_at hl 0 rfl) (lv_nil hl)))))
      have eR5 : (M 0) = mPn (M 0) R P 0 := by rfl
      have hP : va_P K.1 vwCl (mw K h a (hput (hrow M 1 (mPn (M 0) R P 0)) 8 (0 : Int32))) H := by rw [← eR5]; exact hP
      have hD : va_D A (mw K h a (hput (hrow M 1 (mPn (M 0) R P 0)) 8 (0 : Int32))) := by rw [← eR5]; exact hD
      have hP : va_P K.1 vwCl (mw K h a (hrow (hrow (hput (hrow M 1 (mPn (M 0) R P 0)) 8 (0 : Int32)) 9 (M 9)) 10 (M 10))) H := hP
      have hD : va_D A (mw K h a (hrow (hrow (hput (hrow M 1 (mPn (M 0) R P 0)) 8 (0 : Int32)) 9 (M 9)) 10 (M 10))) := hD
      exact lp44 _ 0 (M 9) (M 10) _ _ _ (Nat.lt_succ_self _) (by first | omega | assumption | first | rfl | (simp [c_12, c_27]; done) | omega) hP hD hS (lv_cons (lv_at hl 2 rfl) (lv_cons (lv_at hl 3 rfl) (lv_cons (lv_is (lv_at hl 1 rfl) (show (0 : Int32) = dyM (M 0) R P 0 by rfl)) (lv_cons (lv_is (lv_at hl 0 rfl) (show (0 : Int32) = nI 0 by rfl)) (lv_nil hl)))))
    · skip
      refine lv_aload_n hx hb dX6_coming_30 rfl (lv_at hl 0 rfl) ?_
      refine lv_iconst (v := (2 : Int32)) hx hb dX6_coming_31 (by decide) ?_
      refine xw_Vi (As := [.int (2 : Int32)]) (rest := []) (wc := mw K h a (hput M 8 (0 : Int32))) (wr := (List.filterMap (fun i => (mw K h a (hput M 8 (0 : Int32)) : va_W)[i]?) ([] : List Nat))) ⟨hx, hb, hml, hown, hts⟩ (c_X6_fails l K h a (hput M 8 (0 : Int32)) (2 : Int32) H.size) (cwV 1 hts gX6_coming_X6_fails rfl rfl rfl (by decide +kernel) ⟨Nat.le_of_ble_eq_true rfl, Nat.le_of_ble_eq_true rfl⟩) hK hP hD hS hA [0, 1, 2, 3, 4, 5, 6, 7, 8, 9] [] [0, 1, 2, 3, 4, 5, 6, 7, 8, 9] rfl rfl rfl (fun _u => mw K h a (hput M 8 (2 : Int32))) (fun _ => rfl) 0 6 rfl rfl rfl rfl hl.1 rfl (Nat.le_of_ble_eq_true rfl) (Nat.le_of_ble_eq_true rfl) (Nat.le_of_ble_eq_true rfl) dX6_coming_32 (fun r32 _ H locs hq32 hP hD hS => ?_)
      have hP : va_P K.1 vwCl (mw K h a (hput M 8 (2 : Int32))) H := hP
      have hD : va_D A (mw K h a (hput M 8 (2 : Int32))) := hD
      subst hq32
      have eR6 : (2 : Int32) = nI (kComM R n) := by exact (congrArg nI (show kComM R n = _ from (by simp [kComM, c_12, c_27]; done))).symm
      have hP : va_P K.1 vwCl (mw K h a (hput M 8 (nI (kComM R n)))) H := by rw [← eR6]; exact hP
      have hD : va_D A (mw K h a (hput M 8 (nI (kComM R n)))) := by rw [← eR6]; exact hD
      exact hend _ _ _ _ _ _ _ (M 1, M 9, M 10) hP hD hS (Nat.le_of_ble_eq_true rfl) (Nat.le_of_ble_eq_true rfl) (by first | (intro hk9; rfl; done) | (intro hk9; simp [kComM, c_12, c_27] at hk9; done)) dX6_coming_35
  · skip
    refine lv_aload_n hx hb dX6_coming_15 rfl (lv_at hl 0 rfl) ?_
    refine lv_iconst (v := (1 : Int32)) hx hb dX6_coming_16 (by decide) ?_
    refine xw_Vi (As := [.int (1 : Int32)]) (rest := []) (wc := mw K h a (hput M 8 (0 : Int32))) (wr := (List.filterMap (fun i => (mw K h a (hput M 8 (0 : Int32)) : va_W)[i]?) ([] : List Nat))) ⟨hx, hb, hml, hown, hts⟩ (c_X6_fails l K h a (hput M 8 (0 : Int32)) (1 : Int32) H.size) (cwV 1 hts gX6_coming_X6_fails rfl rfl rfl (by decide +kernel) ⟨Nat.le_of_ble_eq_true rfl, Nat.le_of_ble_eq_true rfl⟩) hK hP hD hS hA [0, 1, 2, 3, 4, 5, 6, 7, 8, 9] [] [0, 1, 2, 3, 4, 5, 6, 7, 8, 9] rfl rfl rfl (fun _u => mw K h a (hput M 8 (1 : Int32))) (fun _ => rfl) 0 6 rfl rfl rfl rfl hl.1 rfl (Nat.le_of_ble_eq_true rfl) (Nat.le_of_ble_eq_true rfl) (Nat.le_of_ble_eq_true rfl) dX6_coming_17 (fun r17 _ H locs hq17 hP hD hS => ?_)
    have hP : va_P K.1 vwCl (mw K h a (hput M 8 (1 : Int32))) H := hP
    have hD : va_D A (mw K h a (hput M 8 (1 : Int32))) := hD
    subst hq17
    have eR7 : (1 : Int32) = nI (kComM R n) := by exact (congrArg nI (show kComM R n = _ from (by simp [kComM, c_12]; done))).symm
    have hP : va_P K.1 vwCl (mw K h a (hput M 8 (nI (kComM R n)))) H := by rw [← eR7]; exact hP
    have hD : va_D A (mw K h a (hput M 8 (nI (kComM R n)))) := by rw [← eR7]; exact hD
    exact hend _ _ _ _ _ _ _ (M 1, M 9, M 10) hP hD hS (Nat.le_of_ble_eq_true rfl) (Nat.le_of_ble_eq_true rfl) (by first | (intro hk9; rfl; done) | (intro hk9; simp [kComM, c_12] at hk9; done)) dX6_coming_20

theorem upd_same (f : Nat → Int32) (k : Nat) : f = upd f k (f k) := by
  funext j
  unfold upd
  split <;> simp_all
abbrev rm_X6_degreeFor : Room := { frames := 5, cells := 0, slots := 0, locals := 118 }
set_option maxHeartbeats 4000000 in
set_option maxRecDepth 100000 in
theorem c_X6_degreeFor (l : Launch) (K : KX) (h : Nat) (a : Nat → Nat) (M : HV) (p : Int32) (r : Int32) (R : Nat) (hR0 : M 0 3 = nI R) (hR0b : R ≤ 6) (P : Nat) (hP0 : M 0 4 = nI P) (hP0b : P ≤ 10) (hmo : ∀ d, 1 ≤ d → d < 10 → mOK (mDg (M 0) (cN p) (cN r) d) R P) (sz : Nat) : Met l yX6_degreeFor wsX6_degreeFor rm_X6_degreeFor (va_Pc [.ref h, .int p, .int r] (xPre K (mw K h a M) sz)) (va_Qi (fun (r9 : Int32) (u9 : (Nat → Int32) × (Nat → Int32) × (Nat → Int32)) => kDegM (M 0) p r = 0 → r9 = fstF (ldM (M 0) R P (cN p) (cN r)) 1 9) (fun u9 t => xPost K (va_A (mw K h a M) sz) (mw K h a (hput (hrow (hrow (hrow M 1 u9.1) 9 u9.2.1) 10 u9.2.2) 8 (nI (kDegM (M 0) p r)))) t) (va_A (mw K h a M) sz)) 0 0 (va_A (mw K h a M) sz) := by
  refine xw_starti (cc := cX6_degreeFor) (maxL := 4) (by decide) rfl (Nat.le_of_ble_eq_true rfl) ?_
  intro p9 e9 s9 m9 below9 meth9 c9 H locs ls A av9 Q9 hx hb hlocks hml hname hts hown hK hP hD hS hA hsz hend hl
  have hown : s9.vm.findClass RX6 = some m9.cls := hown
  have hl : lv_has ls 4 [(0, .ref h), (1, .int p), (2, .int r)] := hl
  have hi6 : ∀ w ∈ u_ws RX6 TX6 14, w ∈ wsX6_degreeFor := by decide +kernel
  have lk42 := hts (.fieldLink RX6 42 "StandInsModel" "thrown" "I") (by decide +kernel)
  have lk7 := hts (.fieldLink RX6 7 "StandInsModel" "now" "[I") (by decide +kernel)
  have lk13 := hts (.fieldLink RX6 13 "StandInsModel" "trial" "[I") (by decide +kernel)
  refine lv_aload_n hx hb dX6_degreeFor_0 rfl (lv_at hl 0 rfl) ?_
  refine lv_iconst (v := (0 : Int32)) hx hb dX6_degreeFor_1 (by decide) ?_
  refine va_put (ci := 6) (v := .int (0 : Int32)) (ty := .int) (C := RX6) (T := TX6) (N := 14) hx hb hts hi6 tyX6 tyX6_ok nmX6 hown hK hP hD hS 0 rfl rfl 8 (by decide) lk42 (fun _ h9 => h9) rfl (by decide +kernel) rfl rfl (Nat.le_of_ble_eq_true rfl) dX6_degreeFor_2 (fun H locs hP hD hS => ?_)
  have hP : va_P K.1 vwCl (mw K h a (hput M 8 (0 : Int32))) H := hP
  have hD : va_D A (mw K h a (hput M 8 (0 : Int32))) := hD
  refine lv_aload_n hx hb dX6_degreeFor_5 rfl (lv_at hl 0 rfl) ?_
  refine va_get (ci := 6) (v := .ref (a 0)) (C := RX6) (T := TX6) (N := 14) hx hb hts hi6 hown hK hP 0 rfl rfl 0 (by decide) lk7 (fun _ h9 => h9) rfl dX6_degreeFor_6 ?_
  refine lv_iload_n hx hb dX6_degreeFor_9 rfl (lv_at hl 1 rfl) ?_
  have hPc := P_sub (ws' := [((a 0), aI K 190 (M 0))]) hP [1] rfl
  refine xr_S (As := [.ref (a 0), .int p]) (rest := []) ⟨hx, hb, hml, hown, hts⟩ (c_X6_isPlayer l K (a 0) (M 0) p P hP0 (by omega)) (va_cwS 2 hts gX6_degreeFor_X6_isPlayer rfl rfl rfl (by decide +kernel) ⟨Nat.le_of_ble_eq_true rfl, Nat.le_of_ble_eq_true rfl⟩) hK hPc rfl hl.1 rfl (Nat.le_of_ble_eq_true rfl) (Nat.le_of_ble_eq_true rfl) (Nat.le_of_ble_eq_true rfl) dX6_degreeFor_10 ?_
  refine xb_if_eq (tgt := 27) hx hb dX6_degreeFor_13 (by decide) (fun c_13 => ?_) (fun c_13 => ?_)
  · skip
    refine lv_aload_n hx hb dX6_degreeFor_27 rfl (lv_at hl 0 rfl) ?_
    refine lv_iconst (v := (1 : Int32)) hx hb dX6_degreeFor_28 (by decide) ?_
    refine xw_Vi (As := [.int (1 : Int32)]) (rest := []) (wc := mw K h a (hput M 8 (0 : Int32))) (wr := (List.filterMap (fun i => (mw K h a (hput M 8 (0 : Int32)) : va_W)[i]?) ([] : List Nat))) ⟨hx, hb, hml, hown, hts⟩ (c_X6_fails l K h a (hput M 8 (0 : Int32)) (1 : Int32) H.size) (cwV 1 hts gX6_degreeFor_X6_fails rfl rfl rfl (by decide +kernel) ⟨Nat.le_of_ble_eq_true rfl, Nat.le_of_ble_eq_true rfl⟩) hK hP hD hS hA [0, 1, 2, 3, 4, 5, 6, 7, 8, 9] [] [0, 1, 2, 3, 4, 5, 6, 7, 8, 9] rfl rfl rfl (fun _u => mw K h a (hput M 8 (1 : Int32))) (fun _ => rfl) 0 6 rfl rfl rfl rfl hl.1 rfl (Nat.le_of_ble_eq_true rfl) (Nat.le_of_ble_eq_true rfl) (Nat.le_of_ble_eq_true rfl) dX6_degreeFor_29 (fun r29 _ H locs hq29 hP hD hS => ?_)
    have hP : va_P K.1 vwCl (mw K h a (hput M 8 (1 : Int32))) H := hP
    have hD : va_D A (mw K h a (hput M 8 (1 : Int32))) := hD
    subst hq29
    have eR1 : (1 : Int32) = nI (kDegM (M 0) p r) := by exact (congrArg nI (show kDegM (M 0) p r = _ from (by simp [kDegM, c_13]; done))).symm
    have hP : va_P K.1 vwCl (mw K h a (hput M 8 (nI (kDegM (M 0) p r)))) H := by rw [← eR1]; exact hP
    have hD : va_D A (mw K h a (hput M 8 (nI (kDegM (M 0) p r)))) := by rw [← eR1]; exact hD
    exact hend _ _ _ _ _ _ _ (M 1, M 9, M 10) hP hD hS (Nat.le_of_ble_eq_true rfl) (Nat.le_of_ble_eq_true rfl) (by first | (intro hk9; rfl; done) | (intro hk9; simp [kDegM, c_13] at hk9; done)) dX6_degreeFor_32
  · skip
    have hnP := idx_cN hP0 (by omega) c_13
    refine lv_aload_n hx hb dX6_degreeFor_16 rfl (lv_at hl 0 rfl) ?_
    refine va_get (ci := 6) (v := .ref (a 0)) (C := RX6) (T := TX6) (N := 14) hx hb hts hi6 hown hK hP 0 rfl rfl 0 (by decide) lk7 (fun _ h9 => h9) rfl dX6_degreeFor_17 ?_
    refine lv_iload_n hx hb dX6_degreeFor_20 rfl (lv_at hl 2 rfl) ?_
    have hPc := P_sub (ws' := [((a 0), aI K 190 (M 0))]) hP [1] rfl
    refine xr_S (As := [.ref (a 0), .int r]) (rest := []) ⟨hx, hb, hml, hown, hts⟩ (c_X6_isRole l K (a 0) (M 0) r R hR0 (by omega)) (va_cwS 2 hts gX6_degreeFor_X6_isRole rfl rfl rfl (by decide +kernel) ⟨Nat.le_of_ble_eq_true rfl, Nat.le_of_ble_eq_true rfl⟩) hK hPc rfl hl.1 rfl (Nat.le_of_ble_eq_true rfl) (Nat.le_of_ble_eq_true rfl) (Nat.le_of_ble_eq_true rfl) dX6_degreeFor_21 ?_
    refine xb_if_ne (tgt := 33) hx hb dX6_degreeFor_24 (by decide) (fun c_24 => ?_) (fun c_24 => ?_)
    · skip
      have hn2 := idx_cN hR0 (by omega) c_24
      refine lv_aload_n hx hb dX6_degreeFor_33 rfl (lv_at hl 0 rfl) ?_
      refine xw_Vv (As := []) (rest := []) (wc := mw K h a (hput M 8 (0 : Int32))) (wr := (List.filterMap (fun i => (mw K h a (hput M 8 (0 : Int32)) : va_W)[i]?) ([] : List Nat))) ⟨hx, hb, hml, hown, hts⟩ (c_X6_tries l K h a (hput M 8 (0 : Int32)) H.size) (cwV 0 hts gX6_degreeFor_X6_tries rfl rfl rfl (by decide +kernel) ⟨Nat.le_of_ble_eq_true rfl, Nat.le_of_ble_eq_true rfl⟩) hK hP hD hS hA [0, 1, 2, 3, 4, 5, 6, 7, 8, 9] [] [0, 1, 2, 3, 4, 5, 6, 7, 8, 9] rfl rfl rfl (fun _u => mw K h a (hput (hrow M 1 (M 0)) 8 (0 : Int32))) (fun _ => rfl) 0 6 rfl rfl rfl rfl hl.1 rfl (Nat.le_of_ble_eq_true rfl) (Nat.le_of_ble_eq_true rfl) (Nat.le_of_ble_eq_true rfl) dX6_degreeFor_34 (fun _ H locs hq34 hP hD hS => ?_)
      have hP : va_P K.1 vwCl (mw K h a (hput (hrow M 1 (M 0)) 8 (0 : Int32))) H := hP
      have hD : va_D A (mw K h a (hput (hrow M 1 (M 0)) 8 (0 : Int32))) := hD
      refine lv_iconst (v := (1 : Int32)) hx hb dX6_degreeFor_37 (by decide) ?_
      refine lv_istore_n (lv' := [(3, .int (1 : Int32)), (0, .ref h), (1, .int p), (2, .int r)]) hx hb dX6_degreeFor_38 rfl hl (by decide) rfl (fun ls hl => ?_)
      have lp39 : ∀ (n9 : Nat) (k : Nat) (y : Int32) (E : Nat → Int32) (F : Nat → Int32) (H : Heap) (locs : List Loc) (ls : Array Slot), 10 - k < n9 → (k ≤ 10) → (1 ≤ k) → (fstF (ldM (M 0) R P (cN p) (cN r)) 1 9 = fstF (ldM (M 0) R P (cN p) (cN r)) k (10 - k)) → va_P K.1 vwCl (mw K h a (hrow (hrow (hput (hrow M 1 (upd (M 0) (70 + 6 * cN p + cN r) y)) 8 (0 : Int32)) 9 E) 10 F)) H → va_D A (mw K h a (hrow (hrow (hput (hrow M 1 (upd (M 0) (70 + 6 * cN p + cN r) y)) 8 (0 : Int32)) 9 E) 10 F)) → va_S A s9.heap H locs → lv_has ls 4 [(0, .ref h), (1, .int p), (2, .int r), (3, .int (nI k))] → W p9 l e9 rm_X6_degreeFor s9 m9 av9 below9 meth9 c9 H locs 0 0 Q9 (F0 m9 39 ls []) := by
        intro n9
        induction n9 with
        | zero => intro k y E F H locs ls hmu hk hk1 hF hP hD hS hl; exact absurd hmu (Nat.not_lt_zero _)
        | succ n9 ih39 =>
          intro k y E F H locs ls hmu hk hk1 hF hP hD hS hl
          refine lv_iload_n hx hb dX6_degreeFor_39 rfl (lv_at hl 3 rfl) ?_
          refine lv_bipush (v := (10 : Int32)) hx hb dX6_degreeFor_40 (by decide) ?_
          refine xn_icmp_ge (tgt := 81) hx hb k 10 rfl rfl (by omega) (by decide) dX6_degreeFor_42 (by decide) (fun c_42 => ?_) (fun c_42 => ?_)
          · skip
            refine lv_iconst (v := (-1 : Int32)) hx hb dX6_degreeFor_81 (by decide) ?_
            have eR3 : (0 : Int32) = nI (kDegM (M 0) p r) := by exact (congrArg nI (show kDegM (M 0) p r = _ from (by simp [kDegM, c_13, c_24, c_42]; done))).symm
            have hP : va_P K.1 vwCl (mw K h a (hrow (hrow (hput (hrow M 1 (upd (M 0) (70 + 6 * cN p + cN r) y)) 8 (nI (kDegM (M 0) p r))) 9 E) 10 F)) H := by rw [← eR3]; exact hP
            have hD : va_D A (mw K h a (hrow (hrow (hput (hrow M 1 (upd (M 0) (70 + 6 * cN p + cN r) y)) 8 (nI (kDegM (M 0) p r))) 9 E) 10 F)) := by rw [← eR3]; exact hD
            exact hend _ _ _ _ _ _ _ (upd (M 0) (70 + 6 * cN p + cN r) y, E, F) hP hD hS (Nat.le_of_ble_eq_true rfl) (Nat.le_of_ble_eq_true rfl) (by first | (intro hk9; rw [hF]; exact (fstF_end (by omega)).symm; done) | (intro hk9; simp [kDegM, c_13, c_24, c_42] at hk9; done)) dX6_degreeFor_82
          · skip
            refine lv_aload_n hx hb dX6_degreeFor_45 rfl (lv_at hl 0 rfl) ?_
            refine va_get (ci := 6) (v := .ref (a 1)) (C := RX6) (T := TX6) (N := 14) hx hb hts hi6 hown hK hP 0 rfl rfl 1 (by decide) lk13 (fun _ h9 => h9) rfl dX6_degreeFor_46 ?_
            refine lv_bipush (v := (70 : Int32)) hx hb dX6_degreeFor_49 (by decide) ?_
            refine lv_bipush (v := (6 : Int32)) hx hb dX6_degreeFor_51 (by decide) ?_
            refine lv_iload_n hx hb dX6_degreeFor_53 rfl (lv_at hl 1 rfl) ?_
            refine lv_imul hx hb dX6_degreeFor_54 ?_
            refine lv_iadd hx hb dX6_degreeFor_55 ?_
            refine lv_iload_n hx hb dX6_degreeFor_56 rfl (lv_at hl 2 rfl) ?_
            refine lv_iadd hx hb dX6_degreeFor_57 ?_
            refine lv_iload_n hx hb dX6_degreeFor_58 rfl (lv_at hl 3 rfl) ?_
            refine xi_st hx hb hK hP hD hS 2 (f := (upd (M 0) (70 + 6 * cN p + cN r) y)) rfl ((70 + (6 * (cN p))) + (cN r)) (nn_add (nn_add rfl (nn_mul rfl hnP.1)) hn2.1) (by omega) (by decide) (mw K h a (hrow (hrow (hput (hrow M 1 (upd (upd (M 0) (70 + 6 * cN p + cN r) y) ((70 + (6 * (cN p))) + (cN r)) (nI k))) 8 (0 : Int32)) 9 E) 10 F)) rfl dX6_degreeFor_59 (fun H locs hP hD hS => ?_)
            rw [upd_upd] at hP hD
            have hP : va_P K.1 vwCl (mw K h a (hrow (hrow (hput (hrow M 1 (upd (M 0) ((70 + (6 * (cN p))) + (cN r)) (nI k))) 8 (0 : Int32)) 9 E) 10 F)) H := hP
            have hD : va_D A (mw K h a (hrow (hrow (hput (hrow M 1 (upd (M 0) ((70 + (6 * (cN p))) + (cN r)) (nI k))) 8 (0 : Int32)) 9 E) 10 F)) := hD
            refine lv_aload_n hx hb dX6_degreeFor_60 rfl (lv_at hl 0 rfl) ?_
            refine lv_aload_n hx hb dX6_degreeFor_61 rfl (lv_at hl 0 rfl) ?_
            refine va_get (ci := 6) (v := .ref (a 1)) (C := RX6) (T := TX6) (N := 14) hx hb hts hi6 hown hK hP 0 rfl rfl 1 (by decide) lk13 (fun _ h9 => h9) rfl dX6_degreeFor_62 ?_
            refine lv_iload_n hx hb dX6_degreeFor_65 rfl (lv_at hl 2 rfl) ?_
            rw [show r = nI (cN r) from hn2.1]
            refine xw_Vi (As := [.ref (a 1), .int (nI (cN r))]) (rest := []) (wc := mw K h a (hrow (hrow (hput (hrow M 1 (upd (M 0) ((70 + (6 * (cN p))) + (cN r)) (nI k))) 8 (0 : Int32)) 9 E) 10 F)) (wr := (List.filterMap (fun i => (mw K h a (hrow (hrow (hput (hrow M 1 (upd (M 0) ((70 + (6 * (cN p))) + (cN r)) (nI k))) 8 (0 : Int32)) 9 E) 10 F) : va_W)[i]?) ([] : List Nat))) ⟨hx, hb, hml, hown, hts⟩ (c_X6_castFor_t l K h a (hrow (hrow (hput (hrow M 1 (upd (M 0) ((70 + (6 * (cN p))) + (cN r)) (nI k))) 8 (0 : Int32)) 9 E) 10 F) (cN r) (by omega) R (mk_un (by omega) hR0) (by omega) P (mk_un (by omega) hP0) (by omega) (hmo k (by omega) (by omega)) H.size) (cwV 2 hts gX6_degreeFor_X6_castFor rfl rfl rfl (by decide +kernel) ⟨Nat.le_of_ble_eq_true rfl, Nat.le_of_ble_eq_true rfl⟩) hK hP hD hS hA [0, 1, 2, 3, 4, 5, 6, 7, 8, 9] [] [0, 1, 2, 3, 4, 5, 6, 7, 8, 9] rfl rfl rfl (fun E66 => mw K h a (hrow (hrow (hput (hrow M 1 (upd (M 0) ((70 + (6 * (cN p))) + (cN r)) (nI k))) 8 (0 : Int32)) 9 E66) 10 (mcR ((upd (M 0) ((70 + (6 * (cN p))) + (cN r)) (nI k))) R P ((F)) 6))) (fun _ => rfl) 0 6 rfl rfl rfl rfl hl.1 rfl (Nat.le_of_ble_eq_true rfl) (Nat.le_of_ble_eq_true rfl) (Nat.le_of_ble_eq_true rfl) dX6_degreeFor_66 (fun r66 E66 H locs hq66 hP hD hS => ?_)
            have hP : va_P K.1 vwCl (mw K h a (hrow (hrow (hput (hrow M 1 (upd (M 0) ((70 + (6 * (cN p))) + (cN r)) (nI k))) 8 (0 : Int32)) 9 E66) 10 (mcR ((upd (M 0) ((70 + (6 * (cN p))) + (cN r)) (nI k))) R P ((F)) 6))) H := hP
            have hD : va_D A (mw K h a (hrow (hrow (hput (hrow M 1 (upd (M 0) ((70 + (6 * (cN p))) + (cN r)) (nI k))) 8 (0 : Int32)) 9 E66) 10 (mcR ((upd (M 0) ((70 + (6 * (cN p))) + (cN r)) (nI k))) R P ((F)) 6))) := hD
            have hq66 : r66 = csG ((upd (M 0) ((70 + (6 * (cN p))) + (cN r)) (nI k))) R P (cN r) := hq66
            subst hq66
            refine lv_iload_n hx hb dX6_degreeFor_69 rfl (lv_at hl 1 rfl) ?_
            refine lv_icmp_ne (tgt := 75) hx hb dX6_degreeFor_70 (by decide) (fun c_70 => ?_) (fun c_70 => ?_)
            · skip
              refine lv_iinc (v := nI (k + 1)) (lv' := [(3, .int (nI (k + 1))), (0, .ref h), (1, .int p), (2, .int r)]) hx hb dX6_degreeFor_75 hl (k := 3) rfl (nI_1 _) (by decide) rfl (fun ls hl => ?_)
              refine lv_goto (tgt := 39) hx hb dX6_degreeFor_78 (by decide) ?_
              have eR4 : (upd (M 0) ((70 + (6 * (cN p))) + (cN r)) (nI k)) = upd (M 0) (70 + 6 * cN p + cN r) (nI k) := by first | rfl | exact upd_upd _ _ _ _
              have hP : va_P K.1 vwCl (mw K h a (hrow (hrow (hput (hrow M 1 (upd (M 0) (70 + 6 * cN p + cN r) (nI k))) 8 (0 : Int32)) 9 E66) 10 (mcR ((upd (M 0) ((70 + (6 * (cN p))) + (cN r)) (nI k))) R P ((F)) 6))) H := by rw [← eR4]; exact hP
              have hD : va_D A (mw K h a (hrow (hrow (hput (hrow M 1 (upd (M 0) (70 + 6 * cN p + cN r) (nI k))) 8 (0 : Int32)) 9 E66) 10 (mcR ((upd (M 0) ((70 + (6 * (cN p))) + (cN r)) (nI k))) R P ((F)) 6))) := by rw [← eR4]; exact hD
              have hP : va_P K.1 vwCl (mw K h a (hrow (hrow (hput (hrow M 1 (upd (M 0) (70 + 6 * cN p + cN r) (nI k))) 8 (0 : Int32)) 9 E66) 10 (mcR ((upd (M 0) ((70 + (6 * (cN p))) + (cN r)) (nI k))) R P ((F)) 6))) H := hP
              have hD : va_D A (mw K h a (hrow (hrow (hput (hrow M 1 (upd (M 0) (70 + 6 * cN p + cN r) (nI k))) 8 (0 : Int32)) 9 E66) 10 (mcR ((upd (M 0) ((70 + (6 * (cN p))) + (cN r)) (nI k))) R P ((F)) 6))) := hD
              exact ih39 (k + 1) (nI k) E66 (mcR ((upd (M 0) ((70 + (6 * (cN p))) + (cN r)) (nI k))) R P ((F)) 6) _ _ _ (by omega) (by first | omega | assumption | first | rfl | (simp [c_13, c_24, c_42, c_70]; done) | omega) (by first | omega | assumption | first | rfl | (simp [c_13, c_24, c_42, c_70]; done) | omega) (by rw [hF]; exact fstF_step (by omega) (by simp only [ldM, decide_eq_true_eq]; intro z; exact c_70 (z.trans hnP.1.symm))) hP hD hS (lv_cons (lv_at hl 1 rfl) (lv_cons (lv_at hl 2 rfl) (lv_cons (lv_at hl 3 rfl) (lv_cons (lv_at hl 0 rfl) (lv_nil hl)))))
            · skip
              refine lv_iload_n hx hb dX6_degreeFor_73 rfl (lv_at hl 3 rfl) ?_
              have eR5 : (0 : Int32) = nI (kDegM (M 0) p r) := by exact (congrArg nI (show kDegM (M 0) p r = _ from (by simp [kDegM, c_13, c_24, c_42, c_70]; done))).symm
              have hP : va_P K.1 vwCl (mw K h a (hrow (hrow (hput (hrow M 1 (upd (M 0) ((70 + (6 * (cN p))) + (cN r)) (nI k))) 8 (nI (kDegM (M 0) p r))) 9 E66) 10 (mcR ((upd (M 0) ((70 + (6 * (cN p))) + (cN r)) (nI k))) R P ((F)) 6))) H := by rw [← eR5]; exact hP
              have hD : va_D A (mw K h a (hrow (hrow (hput (hrow M 1 (upd (M 0) ((70 + (6 * (cN p))) + (cN r)) (nI k))) 8 (nI (kDegM (M 0) p r))) 9 E66) 10 (mcR ((upd (M 0) ((70 + (6 * (cN p))) + (cN r)) (nI k))) R P ((F)) 6))) := by rw [← eR5]; exact hD
              exact hend _ _ _ _ _ _ _ (upd (M 0) ((70 + (6 * (cN p))) + (cN r)) (nI k), E66, mcR ((upd (M 0) ((70 + (6 * (cN p))) + (cN r)) (nI k))) R P ((F)) 6) hP hD hS (Nat.le_of_ble_eq_true rfl) (Nat.le_of_ble_eq_true rfl) (by first | (intro hk9; rw [hF]; exact (fstF_hit (by omega) (by simp only [ldM, decide_eq_true_eq]; exact c_70.trans hnP.1)).symm; done) | (intro hk9; simp [kDegM, c_13, c_24, c_42, c_70] at hk9; done)) dX6_degreeFor_74
      have eR6 : (M 0) = upd (M 0) (70 + 6 * cN p + cN r) (M 0 (70 + 6 * cN p + cN r)) := by exact upd_same _ _
      have hP : va_P K.1 vwCl (mw K h a (hput (hrow M 1 (upd (M 0) (70 + 6 * cN p + cN r) (M 0 (70 + 6 * cN p + cN r)))) 8 (0 : Int32))) H := by rw [← eR6]; exact hP
      have hD : va_D A (mw K h a (hput (hrow M 1 (upd (M 0) (70 + 6 * cN p + cN r) (M 0 (70 + 6 * cN p + cN r)))) 8 (0 : Int32))) := by rw [← eR6]; exact hD
      have hP : va_P K.1 vwCl (mw K h a (hrow (hrow (hput (hrow M 1 (upd (M 0) (70 + 6 * cN p + cN r) (M 0 (70 + 6 * cN p + cN r)))) 8 (0 : Int32)) 9 (M 9)) 10 (M 10))) H := hP
      have hD : va_D A (mw K h a (hrow (hrow (hput (hrow M 1 (upd (M 0) (70 + 6 * cN p + cN r) (M 0 (70 + 6 * cN p + cN r)))) 8 (0 : Int32)) 9 (M 9)) 10 (M 10))) := hD
      exact lp39 _ 1 (M 0 (70 + 6 * cN p + cN r)) (M 9) (M 10) _ _ _ (Nat.lt_succ_self _) (by first | omega | assumption | first | rfl | (simp [c_13, c_24]; done) | omega) (by first | omega | assumption | first | rfl | (simp [c_13, c_24]; done) | omega) (by rfl) hP hD hS (lv_cons (lv_at hl 1 rfl) (lv_cons (lv_at hl 2 rfl) (lv_cons (lv_at hl 3 rfl) (lv_cons (lv_is (lv_at hl 0 rfl) (show (1 : Int32) = nI 1 by first | rfl | (simp [c_13, c_24]; done) | omega)) (lv_nil hl)))))
    · skip
      refine lv_aload_n hx hb dX6_degreeFor_27 rfl (lv_at hl 0 rfl) ?_
      refine lv_iconst (v := (1 : Int32)) hx hb dX6_degreeFor_28 (by decide) ?_
      refine xw_Vi (As := [.int (1 : Int32)]) (rest := []) (wc := mw K h a (hput M 8 (0 : Int32))) (wr := (List.filterMap (fun i => (mw K h a (hput M 8 (0 : Int32)) : va_W)[i]?) ([] : List Nat))) ⟨hx, hb, hml, hown, hts⟩ (c_X6_fails l K h a (hput M 8 (0 : Int32)) (1 : Int32) H.size) (cwV 1 hts gX6_degreeFor_X6_fails rfl rfl rfl (by decide +kernel) ⟨Nat.le_of_ble_eq_true rfl, Nat.le_of_ble_eq_true rfl⟩) hK hP hD hS hA [0, 1, 2, 3, 4, 5, 6, 7, 8, 9] [] [0, 1, 2, 3, 4, 5, 6, 7, 8, 9] rfl rfl rfl (fun _u => mw K h a (hput M 8 (1 : Int32))) (fun _ => rfl) 0 6 rfl rfl rfl rfl hl.1 rfl (Nat.le_of_ble_eq_true rfl) (Nat.le_of_ble_eq_true rfl) (Nat.le_of_ble_eq_true rfl) dX6_degreeFor_29 (fun r29 _ H locs hq29 hP hD hS => ?_)
      have hP : va_P K.1 vwCl (mw K h a (hput M 8 (1 : Int32))) H := hP
      have hD : va_D A (mw K h a (hput M 8 (1 : Int32))) := hD
      subst hq29
      have eR7 : (1 : Int32) = nI (kDegM (M 0) p r) := by exact (congrArg nI (show kDegM (M 0) p r = _ from (by simp [kDegM, c_13, c_24]; done))).symm
      have hP : va_P K.1 vwCl (mw K h a (hput M 8 (nI (kDegM (M 0) p r)))) H := by rw [← eR7]; exact hP
      have hD : va_D A (mw K h a (hput M 8 (nI (kDegM (M 0) p r)))) := by rw [← eR7]; exact hD
      exact hend _ _ _ _ _ _ _ (M 1, M 9, M 10) hP hD hS (Nat.le_of_ble_eq_true rfl) (Nat.le_of_ble_eq_true rfl) (by first | (intro hk9; rfl; done) | (intro hk9; simp [kDegM, c_13, c_24] at hk9; done)) dX6_degreeFor_32

abbrev rm_X6_succeeds : Room := { frames := 5, cells := 0, slots := 0, locals := 123 }
set_option maxHeartbeats 4000000 in
set_option maxRecDepth 100000 in
theorem c_X6_succeeds (l : Launch) (K : KX) (h : Nat) (a : Nat → Nat) (M : HV) (g : Nat) (hg : g < 10000) (R : Nat) (hR0 : M 1 3 = nI R) (hR0b : R ≤ 6) (P : Nat) (hP0 : M 1 4 = nI P) (hP0b : P ≤ 10) (hok : mOK (M 1) R P) (sz : Nat) : Met l yX6_succeeds wsX6_succeeds rm_X6_succeeds (va_Pc [.ref h, .int (nI g)] (xPre K (mw K h a M) sz)) (va_Qi (fun (r9 : Int32) (u9 : (Nat → Int32) × (Nat → Int32)) => r9 = bI (msB (M 1) R P g = true)) (fun u9 t => xPost K (va_A (mw K h a M) sz) (mw K h a (hrow (hrow (hrow M 1 (msS (M 1) R P g)) 9 u9.1) 10 u9.2)) t) (va_A (mw K h a M) sz)) 0 0 (va_A (mw K h a M) sz) := by
  refine xw_startz (cc := cX6_succeeds) (maxL := 5) (ret := .boolean) (by decide) rfl (Nat.le_of_ble_eq_true rfl) ?_
  intro p9 e9 s9 m9 below9 meth9 c9 H locs ls A av9 Q9 hx hb hlocks hml hname hts hown hK hP hD hS hA hsz hend hl
  have hown : s9.vm.findClass RX6 = some m9.cls := hown
  have hl : lv_has ls 5 [(0, .ref h), (1, .int (nI g))] := hl
  have hi6 : ∀ w ∈ u_ws RX6 TX6 14, w ∈ wsX6_succeeds := by decide +kernel
  have lk13 := hts (.fieldLink RX6 13 "StandInsModel" "trial" "[I") (by decide +kernel)
  refine lv_iload_n hx hb dX6_succeeds_0 rfl (lv_at hl 1 rfl) ?_
  refine lv_bipush (v := (100 : Int32)) hx hb dX6_succeeds_1 (by decide) ?_
  refine lv_idiv hx hb dX6_succeeds_3 (by decide) ?_
  have e1 : (nI g) / (100 : Int32) = nI (g / 100) := nn_div rfl rfl (by omega) (by omega) (by omega)
  rw [e1]
  refine lv_bipush (v := (10 : Int32)) hx hb dX6_succeeds_4 (by decide) ?_
  refine lv_irem hx hb dX6_succeeds_6 (by decide) ?_
  have e2 : (nI (g / 100)) - (nI (g / 100)) / (10 : Int32) * (10 : Int32) = nI ((g / 100) % 10) := nn_rem rfl rfl (by omega) (by omega) (by omega)
  rw [e2]
  refine lv_istore_n (lv' := [(2, .int (nI ((g / 100) % 10))), (0, .ref h), (1, .int (nI g))]) hx hb dX6_succeeds_7 rfl hl (by decide) rfl (fun ls hl => ?_)
  refine lv_iload_n hx hb dX6_succeeds_8 rfl (lv_at hl 2 rfl) ?_
  refine lv_bipush (v := (10 : Int32)) hx hb dX6_succeeds_9 (by decide) ?_
  refine lv_idiv hx hb dX6_succeeds_11 (by decide) ?_
  have e3 : (nI g) / (10 : Int32) = nI (g / 10) := nn_div rfl rfl (by omega) (by omega) (by omega)
  rw [e3]
  refine lv_bipush (v := (10 : Int32)) hx hb dX6_succeeds_12 (by decide) ?_
  refine lv_irem hx hb dX6_succeeds_14 (by decide) ?_
  have e4 : (nI (g / 10)) - (nI (g / 10)) / (10 : Int32) * (10 : Int32) = nI ((g / 10) % 10) := nn_rem rfl rfl (by omega) (by omega) (by omega)
  rw [e4]
  refine lv_istore_n (lv' := [(3, .int (nI ((g / 10) % 10))), (2, .int (nI ((g / 100) % 10))), (0, .ref h), (1, .int (nI g))]) hx hb dX6_succeeds_15 rfl hl (by decide) rfl (fun ls hl => ?_)
  refine lv_iload_n hx hb dX6_succeeds_16 rfl (lv_at hl 3 rfl) ?_
  refine lv_bipush (v := (10 : Int32)) hx hb dX6_succeeds_17 (by decide) ?_
  refine lv_irem hx hb dX6_succeeds_19 (by decide) ?_
  have e5 : (nI g) - (nI g) / (10 : Int32) * (10 : Int32) = nI (g % 10) := nn_rem rfl rfl (by omega) (by omega) (by omega)
  rw [e5]
  refine lv_istore (lv' := [(4, .int (nI (g % 10))), (3, .int (nI ((g / 10) % 10))), (2, .int (nI ((g / 100) % 10))), (0, .ref h), (1, .int (nI g))]) hx hb dX6_succeeds_20 hl (by decide) rfl (fun ls hl => ?_)
  refine lv_iload_n hx hb dX6_succeeds_22 rfl (lv_at hl 4 rfl) ?_
  refine lv_sipush (v := (1000 : Int32)) hx hb dX6_succeeds_23 (by decide) ?_
  refine lv_idiv hx hb dX6_succeeds_26 (by decide) ?_
  have e6 : (nI g) / (1000 : Int32) = nI (g / 1000) := nn_div rfl rfl (by omega) (by omega) (by omega)
  rw [e6]
  by_cases e27_1 : g / 1000 = 1
  · rw [show nI (g / 1000) = (1 : Int32) from rfl.trans (congrArg nI e27_1)]
    refine lv_tableIn (off := 49) (tgt := 76) hx hb dX6_succeeds_27 (by decide) (by decide) (by decide) (by decide) ?_
    refine lv_aload_n hx hb dX6_succeeds_76 rfl (lv_at hl 3 rfl) ?_
    refine va_get (ci := 6) (v := .ref (a 1)) (C := RX6) (T := TX6) (N := 14) hx hb hts hi6 hown hK hP 0 rfl rfl 1 (by decide) lk13 (fun _ h9 => h9) rfl dX6_succeeds_77 ?_
    refine lv_iload_n hx hb dX6_succeeds_80 rfl (lv_at hl 2 rfl) ?_
    have hPc := P_sub (ws' := [((a 1), aI K 190 (M 1))]) hP [2] rfl
    refine xr_S (As := [.ref (a 1), .int (nI ((g / 100) % 10))]) (rest := []) ⟨hx, hb, hml, hown, hts⟩ (c_X6_isPlayer_n l K (a 1) (M 1) ((g / 100) % 10) (by omega) P hP0 (by omega)) (va_cwS 2 hts gX6_succeeds_X6_isPlayer rfl rfl rfl (by decide +kernel) ⟨Nat.le_of_ble_eq_true rfl, Nat.le_of_ble_eq_true rfl⟩) hK hPc rfl hl.1 rfl (Nat.le_of_ble_eq_true rfl) (Nat.le_of_ble_eq_true rfl) (Nat.le_of_ble_eq_true rfl) dX6_succeeds_81 ?_
    refine xb_if_eq (tgt := 116) hx hb dX6_succeeds_84 (by decide) (fun c_84 => ?_) (fun c_84 => ?_)
    · skip
      refine lv_iconst (v := (0 : Int32)) hx hb dX6_succeeds_116 (by decide) ?_
      have hP : va_P K.1 vwCl (mw K h a (hrow M 1 (M 1))) H := hP
      have hD : va_D A (mw K h a (hrow M 1 (M 1))) := hD
      have eR7 : (M 1) = msS (M 1) R P g := by (simp [msS, e27_1, c_84]; done)
      have hP : va_P K.1 vwCl (mw K h a (hrow M 1 (msS (M 1) R P g))) H := by rw [← eR7]; exact hP
      have hD : va_D A (mw K h a (hrow M 1 (msS (M 1) R P g))) := by rw [← eR7]; exact hD
      exact hend _ _ _ _ _ _ _ (by decide) (M 9, M 10) hP hD hS (Nat.le_of_ble_eq_true rfl) (Nat.le_of_ble_eq_true rfl) (by first | (simp [msB, bI, e27_1, c_84]; done)) dX6_succeeds_117
    · skip
      refine lv_aload_n hx hb dX6_succeeds_87 rfl (lv_at hl 3 rfl) ?_
      refine va_get (ci := 6) (v := .ref (a 1)) (C := RX6) (T := TX6) (N := 14) hx hb hts hi6 hown hK hP 0 rfl rfl 1 (by decide) lk13 (fun _ h9 => h9) rfl dX6_succeeds_88 ?_
      refine lv_iload_n hx hb dX6_succeeds_91 rfl (lv_at hl 1 rfl) ?_
      have hPc := P_sub (ws' := [((a 1), aI K 190 (M 1))]) hP [2] rfl
      refine xr_S (As := [.ref (a 1), .int (nI ((g / 10) % 10))]) (rest := []) ⟨hx, hb, hml, hown, hts⟩ (c_X6_isRole_n l K (a 1) (M 1) ((g / 10) % 10) (by omega) R hR0 (by omega)) (va_cwS 2 hts gX6_succeeds_X6_isRole rfl rfl rfl (by decide +kernel) ⟨Nat.le_of_ble_eq_true rfl, Nat.le_of_ble_eq_true rfl⟩) hK hPc rfl hl.1 rfl (Nat.le_of_ble_eq_true rfl) (Nat.le_of_ble_eq_true rfl) (Nat.le_of_ble_eq_true rfl) dX6_succeeds_92 ?_
      refine xb_if_eq (tgt := 116) hx hb dX6_succeeds_95 (by decide) (fun c_95 => ?_) (fun c_95 => ?_)
      · skip
        refine lv_iconst (v := (0 : Int32)) hx hb dX6_succeeds_116 (by decide) ?_
        have hP : va_P K.1 vwCl (mw K h a (hrow M 1 (M 1))) H := hP
        have hD : va_D A (mw K h a (hrow M 1 (M 1))) := hD
        have eR8 : (M 1) = msS (M 1) R P g := by (simp [msS, e27_1, c_84, c_95]; done)
        have hP : va_P K.1 vwCl (mw K h a (hrow M 1 (msS (M 1) R P g))) H := by rw [← eR8]; exact hP
        have hD : va_D A (mw K h a (hrow M 1 (msS (M 1) R P g))) := by rw [← eR8]; exact hD
        exact hend _ _ _ _ _ _ _ (by decide) (M 9, M 10) hP hD hS (Nat.le_of_ble_eq_true rfl) (Nat.le_of_ble_eq_true rfl) (by first | (simp [msB, bI, e27_1, c_84, c_95]; done)) dX6_succeeds_117
      · skip
        refine lv_aload_n hx hb dX6_succeeds_98 rfl (lv_at hl 3 rfl) ?_
        refine va_get (ci := 6) (v := .ref (a 1)) (C := RX6) (T := TX6) (N := 14) hx hb hts hi6 hown hK hP 0 rfl rfl 1 (by decide) lk13 (fun _ h9 => h9) rfl dX6_succeeds_99 ?_
        refine lv_bipush (v := (70 : Int32)) hx hb dX6_succeeds_102 (by decide) ?_
        refine lv_bipush (v := (6 : Int32)) hx hb dX6_succeeds_104 (by decide) ?_
        refine lv_iload_n hx hb dX6_succeeds_106 rfl (lv_at hl 2 rfl) ?_
        refine lv_imul hx hb dX6_succeeds_107 ?_
        refine lv_iadd hx hb dX6_succeeds_108 ?_
        refine lv_iload_n hx hb dX6_succeeds_109 rfl (lv_at hl 1 rfl) ?_
        refine lv_iadd hx hb dX6_succeeds_110 ?_
        refine lv_iload hx hb dX6_succeeds_111 (lv_at hl 0 rfl) ?_
        refine xi_st hx hb hK hP hD hS 2 (f := M 1) rfl ((70 + (6 * ((g / 100) % 10))) + ((g / 10) % 10)) (nn_add (nn_add rfl (nn_mul rfl rfl)) rfl) (by omega) (by decide) (mw K h a (hrow M 1 (upd (M 1) ((70 + (6 * ((g / 100) % 10))) + ((g / 10) % 10)) (nI (g % 10))))) rfl dX6_succeeds_113 (fun H locs hP hD hS => ?_)
        refine lv_iconst (v := (1 : Int32)) hx hb dX6_succeeds_114 (by decide) ?_
        have eR9 : (upd (M 1) ((70 + (6 * ((g / 100) % 10))) + ((g / 10) % 10)) (nI (g % 10))) = msS (M 1) R P g := by (simp [msS, e27_1, c_84, c_95]; done)
        rw [eR9] at hP hD
        exact hend _ _ _ _ _ _ _ (by decide) (M 9, M 10) hP hD hS (Nat.le_of_ble_eq_true rfl) (Nat.le_of_ble_eq_true rfl) (by first | (simp [msB, bI, e27_1, c_84, c_95]; done)) dX6_succeeds_115
  by_cases e27_2 : g / 1000 = 2
  · rw [show nI (g / 1000) = (2 : Int32) from rfl.trans (congrArg nI e27_2)]
    refine lv_tableIn (off := 91) (tgt := 118) hx hb dX6_succeeds_27 (by decide) (by decide) (by decide) (by decide) ?_
    refine lv_aload_n hx hb dX6_succeeds_118 rfl (lv_at hl 3 rfl) ?_
    refine va_get (ci := 6) (v := .ref (a 1)) (C := RX6) (T := TX6) (N := 14) hx hb hts hi6 hown hK hP 0 rfl rfl 1 (by decide) lk13 (fun _ h9 => h9) rfl dX6_succeeds_119 ?_
    refine lv_iload_n hx hb dX6_succeeds_122 rfl (lv_at hl 2 rfl) ?_
    have hPc := P_sub (ws' := [((a 1), aI K 190 (M 1))]) hP [2] rfl
    refine xr_S (As := [.ref (a 1), .int (nI ((g / 100) % 10))]) (rest := []) ⟨hx, hb, hml, hown, hts⟩ (c_X6_isRole_n l K (a 1) (M 1) ((g / 100) % 10) (by omega) R hR0 (by omega)) (va_cwS 2 hts gX6_succeeds_X6_isRole rfl rfl rfl (by decide +kernel) ⟨Nat.le_of_ble_eq_true rfl, Nat.le_of_ble_eq_true rfl⟩) hK hPc rfl hl.1 rfl (Nat.le_of_ble_eq_true rfl) (Nat.le_of_ble_eq_true rfl) (Nat.le_of_ble_eq_true rfl) dX6_succeeds_123 ?_
    refine xb_if_eq (tgt := 157) hx hb dX6_succeeds_126 (by decide) (fun c_126 => ?_) (fun c_126 => ?_)
    · skip
      refine lv_iconst (v := (0 : Int32)) hx hb dX6_succeeds_157 (by decide) ?_
      have hP : va_P K.1 vwCl (mw K h a (hrow M 1 (M 1))) H := hP
      have hD : va_D A (mw K h a (hrow M 1 (M 1))) := hD
      have eR10 : (M 1) = msS (M 1) R P g := by (simp [msS, e27_2, c_126]; done)
      have hP : va_P K.1 vwCl (mw K h a (hrow M 1 (msS (M 1) R P g))) H := by rw [← eR10]; exact hP
      have hD : va_D A (mw K h a (hrow M 1 (msS (M 1) R P g))) := by rw [← eR10]; exact hD
      exact hend _ _ _ _ _ _ _ (by decide) (M 9, M 10) hP hD hS (Nat.le_of_ble_eq_true rfl) (Nat.le_of_ble_eq_true rfl) (by first | (simp [msB, bI, e27_2, c_126]; done)) dX6_succeeds_158
    · skip
      refine lv_aload_n hx hb dX6_succeeds_129 rfl (lv_at hl 3 rfl) ?_
      refine va_get (ci := 6) (v := .ref (a 1)) (C := RX6) (T := TX6) (N := 14) hx hb hts hi6 hown hK hP 0 rfl rfl 1 (by decide) lk13 (fun _ h9 => h9) rfl dX6_succeeds_130 ?_
      refine lv_iload_n hx hb dX6_succeeds_133 rfl (lv_at hl 1 rfl) ?_
      have hPc := P_sub (ws' := [((a 1), aI K 190 (M 1))]) hP [2] rfl
      refine xr_S (As := [.ref (a 1), .int (nI ((g / 10) % 10))]) (rest := []) ⟨hx, hb, hml, hown, hts⟩ (c_X6_isPlayer_n l K (a 1) (M 1) ((g / 10) % 10) (by omega) P hP0 (by omega)) (va_cwS 2 hts gX6_succeeds_X6_isPlayer rfl rfl rfl (by decide +kernel) ⟨Nat.le_of_ble_eq_true rfl, Nat.le_of_ble_eq_true rfl⟩) hK hPc rfl hl.1 rfl (Nat.le_of_ble_eq_true rfl) (Nat.le_of_ble_eq_true rfl) (Nat.le_of_ble_eq_true rfl) dX6_succeeds_134 ?_
      refine xb_if_eq (tgt := 157) hx hb dX6_succeeds_137 (by decide) (fun c_137 => ?_) (fun c_137 => ?_)
      · skip
        refine lv_iconst (v := (0 : Int32)) hx hb dX6_succeeds_157 (by decide) ?_
        have hP : va_P K.1 vwCl (mw K h a (hrow M 1 (M 1))) H := hP
        have hD : va_D A (mw K h a (hrow M 1 (M 1))) := hD
        have eR11 : (M 1) = msS (M 1) R P g := by (simp [msS, e27_2, c_126, c_137]; done)
        have hP : va_P K.1 vwCl (mw K h a (hrow M 1 (msS (M 1) R P g))) H := by rw [← eR11]; exact hP
        have hD : va_D A (mw K h a (hrow M 1 (msS (M 1) R P g))) := by rw [← eR11]; exact hD
        exact hend _ _ _ _ _ _ _ (by decide) (M 9, M 10) hP hD hS (Nat.le_of_ble_eq_true rfl) (Nat.le_of_ble_eq_true rfl) (by first | (simp [msB, bI, e27_2, c_126, c_137]; done)) dX6_succeeds_158
      · skip
        refine lv_iload hx hb dX6_succeeds_140 (lv_at hl 0 rfl) ?_
        refine xn_if_ne (tgt := 157) hx hb (g % 10) rfl (by omega) dX6_succeeds_142 (by decide) (fun c_142 => ?_) (fun c_142 => ?_)
        · skip
          refine lv_iconst (v := (0 : Int32)) hx hb dX6_succeeds_157 (by decide) ?_
          have hP : va_P K.1 vwCl (mw K h a (hrow M 1 (M 1))) H := hP
          have hD : va_D A (mw K h a (hrow M 1 (M 1))) := hD
          have eR12 : (M 1) = msS (M 1) R P g := by (simp [msS, e27_2, c_126, c_137, c_142]; done)
          have hP : va_P K.1 vwCl (mw K h a (hrow M 1 (msS (M 1) R P g))) H := by rw [← eR12]; exact hP
          have hD : va_D A (mw K h a (hrow M 1 (msS (M 1) R P g))) := by rw [← eR12]; exact hD
          exact hend _ _ _ _ _ _ _ (by decide) (M 9, M 10) hP hD hS (Nat.le_of_ble_eq_true rfl) (Nat.le_of_ble_eq_true rfl) (by first | (simp [msB, bI, e27_2, c_126, c_137, c_142]; done)) dX6_succeeds_158
        · skip
          refine lv_aload_n hx hb dX6_succeeds_145 rfl (lv_at hl 3 rfl) ?_
          refine va_get (ci := 6) (v := .ref (a 1)) (C := RX6) (T := TX6) (N := 14) hx hb hts hi6 hown hK hP 0 rfl rfl 1 (by decide) lk13 (fun _ h9 => h9) rfl dX6_succeeds_146 ?_
          refine lv_bipush (v := (18 : Int32)) hx hb dX6_succeeds_149 (by decide) ?_
          refine lv_iload_n hx hb dX6_succeeds_151 rfl (lv_at hl 2 rfl) ?_
          refine lv_iadd hx hb dX6_succeeds_152 ?_
          refine lv_iload_n hx hb dX6_succeeds_153 rfl (lv_at hl 1 rfl) ?_
          refine xi_st hx hb hK hP hD hS 2 (f := M 1) rfl (18 + ((g / 100) % 10)) (nn_add rfl rfl) (by omega) (by decide) (mw K h a (hrow M 1 (upd (M 1) (18 + ((g / 100) % 10)) (nI ((g / 10) % 10))))) rfl dX6_succeeds_154 (fun H locs hP hD hS => ?_)
          refine lv_iconst (v := (1 : Int32)) hx hb dX6_succeeds_155 (by decide) ?_
          have eR13 : (upd (M 1) (18 + ((g / 100) % 10)) (nI ((g / 10) % 10))) = msS (M 1) R P g := by (simp [msS, e27_2, c_126, c_137, c_142]; done)
          rw [eR13] at hP hD
          exact hend _ _ _ _ _ _ _ (by decide) (M 9, M 10) hP hD hS (Nat.le_of_ble_eq_true rfl) (Nat.le_of_ble_eq_true rfl) (by first | (simp [msB, bI, e27_2, c_126, c_137, c_142]; done)) dX6_succeeds_156
  by_cases e27_3 : g / 1000 = 3
  · rw [show nI (g / 1000) = (3 : Int32) from rfl.trans (congrArg nI e27_3)]
    refine lv_tableIn (off := 132) (tgt := 159) hx hb dX6_succeeds_27 (by decide) (by decide) (by decide) (by decide) ?_
    refine lv_aload_n hx hb dX6_succeeds_159 rfl (lv_at hl 3 rfl) ?_
    refine va_get (ci := 6) (v := .ref (a 1)) (C := RX6) (T := TX6) (N := 14) hx hb hts hi6 hown hK hP 0 rfl rfl 1 (by decide) lk13 (fun _ h9 => h9) rfl dX6_succeeds_160 ?_
    refine lv_iload_n hx hb dX6_succeeds_163 rfl (lv_at hl 2 rfl) ?_
    have hPc := P_sub (ws' := [((a 1), aI K 190 (M 1))]) hP [2] rfl
    refine xr_S (As := [.ref (a 1), .int (nI ((g / 100) % 10))]) (rest := []) ⟨hx, hb, hml, hown, hts⟩ (c_X6_isPlayer_n l K (a 1) (M 1) ((g / 100) % 10) (by omega) P hP0 (by omega)) (va_cwS 2 hts gX6_succeeds_X6_isPlayer rfl rfl rfl (by decide +kernel) ⟨Nat.le_of_ble_eq_true rfl, Nat.le_of_ble_eq_true rfl⟩) hK hPc rfl hl.1 rfl (Nat.le_of_ble_eq_true rfl) (Nat.le_of_ble_eq_true rfl) (Nat.le_of_ble_eq_true rfl) dX6_succeeds_164 ?_
    refine xb_if_eq (tgt := 199) hx hb dX6_succeeds_167 (by decide) (fun c_167 => ?_) (fun c_167 => ?_)
    · skip
      refine lv_iconst (v := (0 : Int32)) hx hb dX6_succeeds_199 (by decide) ?_
      have hP : va_P K.1 vwCl (mw K h a (hrow M 1 (M 1))) H := hP
      have hD : va_D A (mw K h a (hrow M 1 (M 1))) := hD
      have eR14 : (M 1) = msS (M 1) R P g := by (simp [msS, e27_3, c_167]; done)
      have hP : va_P K.1 vwCl (mw K h a (hrow M 1 (msS (M 1) R P g))) H := by rw [← eR14]; exact hP
      have hD : va_D A (mw K h a (hrow M 1 (msS (M 1) R P g))) := by rw [← eR14]; exact hD
      exact hend _ _ _ _ _ _ _ (by decide) (M 9, M 10) hP hD hS (Nat.le_of_ble_eq_true rfl) (Nat.le_of_ble_eq_true rfl) (by first | (simp [msB, bI, e27_3, c_167]; done)) dX6_succeeds_200
    · skip
      refine lv_iload_n hx hb dX6_succeeds_170 rfl (lv_at hl 1 rfl) ?_
      refine xn_if_ne (tgt := 199) hx hb ((g / 10) % 10) rfl (by omega) dX6_succeeds_171 (by decide) (fun c_171 => ?_) (fun c_171 => ?_)
      · skip
        refine lv_iconst (v := (0 : Int32)) hx hb dX6_succeeds_199 (by decide) ?_
        have hP : va_P K.1 vwCl (mw K h a (hrow M 1 (M 1))) H := hP
        have hD : va_D A (mw K h a (hrow M 1 (M 1))) := hD
        have eR15 : (M 1) = msS (M 1) R P g := by (simp [msS, e27_3, c_167, c_171]; done)
        have hP : va_P K.1 vwCl (mw K h a (hrow M 1 (msS (M 1) R P g))) H := by rw [← eR15]; exact hP
        have hD : va_D A (mw K h a (hrow M 1 (msS (M 1) R P g))) := by rw [← eR15]; exact hD
        exact hend _ _ _ _ _ _ _ (by decide) (M 9, M 10) hP hD hS (Nat.le_of_ble_eq_true rfl) (Nat.le_of_ble_eq_true rfl) (by first | (simp [msB, bI, e27_3, c_167, c_171]; done)) dX6_succeeds_200
      · skip
        refine lv_iload hx hb dX6_succeeds_174 (lv_at hl 0 rfl) ?_
        refine xn_if_le (tgt := 199) hx hb (g % 10) rfl (by omega) dX6_succeeds_176 (by decide) (fun c_176 => ?_) (fun c_176 => ?_)
        · skip
          refine lv_iconst (v := (0 : Int32)) hx hb dX6_succeeds_199 (by decide) ?_
          have hP : va_P K.1 vwCl (mw K h a (hrow M 1 (M 1))) H := hP
          have hD : va_D A (mw K h a (hrow M 1 (M 1))) := hD
          have eR16 : (M 1) = msS (M 1) R P g := by (simp [msS, e27_3, c_167, c_171, c_176]; done)
          have hP : va_P K.1 vwCl (mw K h a (hrow M 1 (msS (M 1) R P g))) H := by rw [← eR16]; exact hP
          have hD : va_D A (mw K h a (hrow M 1 (msS (M 1) R P g))) := by rw [← eR16]; exact hD
          exact hend _ _ _ _ _ _ _ (by decide) (M 9, M 10) hP hD hS (Nat.le_of_ble_eq_true rfl) (Nat.le_of_ble_eq_true rfl) (by first | (simp [msB, bI, e27_3, c_167, c_171, c_176]; done)) dX6_succeeds_200
        · skip
          refine lv_aload_n hx hb dX6_succeeds_179 rfl (lv_at hl 3 rfl) ?_
          refine va_get (ci := 6) (v := .ref (a 1)) (C := RX6) (T := TX6) (N := 14) hx hb hts hi6 hown hK hP 0 rfl rfl 1 (by decide) lk13 (fun _ h9 => h9) rfl dX6_succeeds_180 ?_
          refine lv_bipush (v := (50 : Int32)) hx hb dX6_succeeds_183 (by decide) ?_
          refine lv_iload_n hx hb dX6_succeeds_185 rfl (lv_at hl 2 rfl) ?_
          refine lv_iadd hx hb dX6_succeeds_186 ?_
          refine lv_aload_n hx hb dX6_succeeds_187 rfl (lv_at hl 3 rfl) ?_
          refine va_get (ci := 6) (v := .ref (a 1)) (C := RX6) (T := TX6) (N := 14) hx hb hts hi6 hown hK hP 0 rfl rfl 1 (by decide) lk13 (fun _ h9 => h9) rfl dX6_succeeds_188 ?_
          refine lv_iconst (v := (0 : Int32)) hx hb dX6_succeeds_191 (by decide) ?_
          refine xi_ld hx hb hK hP 2 (f := M 1) rfl 0 rfl (by omega) (by decide) dX6_succeeds_192 ?_
          refine lv_iload hx hb dX6_succeeds_193 (lv_at hl 0 rfl) ?_
          refine lv_iadd hx hb dX6_succeeds_195 ?_
          refine xi_st hx hb hK hP hD hS 2 (f := M 1) rfl (50 + ((g / 100) % 10)) (nn_add rfl rfl) (by omega) (by decide) (mw K h a (hrow M 1 (upd (M 1) (50 + ((g / 100) % 10)) ((M 1 0) + (nI (g % 10)))))) rfl dX6_succeeds_196 (fun H locs hP hD hS => ?_)
          refine lv_iconst (v := (1 : Int32)) hx hb dX6_succeeds_197 (by decide) ?_
          have eR17 : (upd (M 1) (50 + ((g / 100) % 10)) ((M 1 0) + (nI (g % 10)))) = msS (M 1) R P g := by (simp [msS, e27_3, c_167, c_171, c_176]; done)
          rw [eR17] at hP hD
          exact hend _ _ _ _ _ _ _ (by decide) (M 9, M 10) hP hD hS (Nat.le_of_ble_eq_true rfl) (Nat.le_of_ble_eq_true rfl) (by first | (simp [msB, bI, e27_3, c_167, c_171, c_176]; done)) dX6_succeeds_198
  by_cases e27_4 : g / 1000 = 4
  · rw [show nI (g / 1000) = (4 : Int32) from rfl.trans (congrArg nI e27_4)]
    refine lv_tableIn (off := 174) (tgt := 201) hx hb dX6_succeeds_27 (by decide) (by decide) (by decide) (by decide) ?_
    refine lv_iload_n hx hb dX6_succeeds_201 rfl (lv_at hl 4 rfl) ?_
    refine lv_sipush (v := (4000 : Int32)) hx hb dX6_succeeds_202 (by decide) ?_
    refine xn_icmp_ne (tgt := 232) hx hb g 4000 rfl rfl (by omega) (by decide) dX6_succeeds_205 (by decide) (fun c_205 => ?_) (fun c_205 => ?_)
    · skip
      refine lv_iconst (v := (0 : Int32)) hx hb dX6_succeeds_232 (by decide) ?_
      have hP : va_P K.1 vwCl (mw K h a (hrow M 1 (M 1))) H := hP
      have hD : va_D A (mw K h a (hrow M 1 (M 1))) := hD
      have eR18 : (M 1) = msS (M 1) R P g := by (simp [msS, e27_4, c_205]; done)
      have hP : va_P K.1 vwCl (mw K h a (hrow M 1 (msS (M 1) R P g))) H := by rw [← eR18]; exact hP
      have hD : va_D A (mw K h a (hrow M 1 (msS (M 1) R P g))) := by rw [← eR18]; exact hD
      exact hend _ _ _ _ _ _ _ (by decide) (M 9, M 10) hP hD hS (Nat.le_of_ble_eq_true rfl) (Nat.le_of_ble_eq_true rfl) (by first | (simp [msB, bI, e27_4, c_205]; done)) dX6_succeeds_233
    · skip
      refine lv_aload_n hx hb dX6_succeeds_208 rfl (lv_at hl 3 rfl) ?_
      refine va_get (ci := 6) (v := .ref (a 1)) (C := RX6) (T := TX6) (N := 14) hx hb hts hi6 hown hK hP 0 rfl rfl 1 (by decide) lk13 (fun _ h9 => h9) rfl dX6_succeeds_209 ?_
      refine lv_iconst (v := (3 : Int32)) hx hb dX6_succeeds_212 (by decide) ?_
      refine xi_ld hx hb hK hP 2 (f := M 1) rfl 3 rfl (by omega) (by decide) dX6_succeeds_213 ?_
      refine xn_if_le (tgt := 232) hx hb R hR0 (by omega) dX6_succeeds_214 (by decide) (fun c_214 => ?_) (fun c_214 => ?_)
      · skip
        refine lv_iconst (v := (0 : Int32)) hx hb dX6_succeeds_232 (by decide) ?_
        have hP : va_P K.1 vwCl (mw K h a (hrow M 1 (M 1))) H := hP
        have hD : va_D A (mw K h a (hrow M 1 (M 1))) := hD
        have eR19 : (M 1) = msS (M 1) R P g := by (simp [msS, e27_4, c_205, c_214]; done)
        have hP : va_P K.1 vwCl (mw K h a (hrow M 1 (msS (M 1) R P g))) H := by rw [← eR19]; exact hP
        have hD : va_D A (mw K h a (hrow M 1 (msS (M 1) R P g))) := by rw [← eR19]; exact hD
        exact hend _ _ _ _ _ _ _ (by decide) (M 9, M 10) hP hD hS (Nat.le_of_ble_eq_true rfl) (Nat.le_of_ble_eq_true rfl) (by first | (simp [msB, bI, e27_4, c_205, c_214]; done)) dX6_succeeds_233
      · skip
        refine lv_aload_n hx hb dX6_succeeds_217 rfl (lv_at hl 3 rfl) ?_
        refine lv_aload_n hx hb dX6_succeeds_218 rfl (lv_at hl 3 rfl) ?_
        refine va_get (ci := 6) (v := .ref (a 1)) (C := RX6) (T := TX6) (N := 14) hx hb hts hi6 hown hK hP 0 rfl rfl 1 (by decide) lk13 (fun _ h9 => h9) rfl dX6_succeeds_219 ?_
        refine xw_Vi (As := [.ref (a 1)]) (rest := []) (wc := mw K h a M) (wr := (List.filterMap (fun i => (mw K h a M : va_W)[i]?) ([] : List Nat))) ⟨hx, hb, hml, hown, hts⟩ (c_X6_posts_t l K h a M R hR0 (by omega) P hP0 (by omega) (by first | assumption | omega) H.size) (cwV 1 hts gX6_succeeds_X6_posts rfl rfl rfl (by decide +kernel) ⟨Nat.le_of_ble_eq_true rfl, Nat.le_of_ble_eq_true rfl⟩) hK hP hD hS hA [0, 1, 2, 3, 4, 5, 6, 7, 8, 9] [] [0, 1, 2, 3, 4, 5, 6, 7, 8, 9] rfl rfl rfl (fun E222 => mw K h a (hrow (hrow (hrow M 1 (mPost (M 1) R P)) 9 E222) 10 (mcR (M 1) R P (M 10) 6))) (fun _ => rfl) 0 6 rfl rfl rfl rfl hl.1 rfl (Nat.le_of_ble_eq_true rfl) (Nat.le_of_ble_eq_true rfl) (Nat.le_of_ble_eq_true rfl) dX6_succeeds_222 (fun r222 E222 H locs hq222 hP hD hS => ?_)
        have hP : va_P K.1 vwCl (mw K h a (hrow (hrow (hrow M 1 (mPost (M 1) R P)) 9 E222) 10 (mcR (M 1) R P (M 10) 6))) H := hP
        have hD : va_D A (mw K h a (hrow (hrow (hrow M 1 (mPost (M 1) R P)) 9 E222) 10 (mcR (M 1) R P (M 10) 6))) := hD
        have hq222 : r222 = mStr (M 1) R P := hq222
        subst hq222
        refine lv_if_lt (tgt := 232) hx hb dX6_succeeds_225 (by decide) (fun c_225 => ?_) (fun c_225 => ?_)
        · skip
          have c_225n := Int32.not_le.mpr c_225
          refine lv_iconst (v := (0 : Int32)) hx hb dX6_succeeds_232 (by decide) ?_
          have eR20 : (mPost (M 1) R P) = msS (M 1) R P g := by (simp [msS, e27_4, c_205, c_214, c_225, c_225n]; done)
          rw [eR20] at hP hD
          exact hend _ _ _ _ _ _ _ (by decide) (E222, mcR (M 1) R P (M 10) 6) hP hD hS (Nat.le_of_ble_eq_true rfl) (Nat.le_of_ble_eq_true rfl) (by first | (simp [msB, bI, e27_4, c_205, c_214, c_225, c_225n]; done)) dX6_succeeds_233
        · skip
          have c_225n := Int32.not_lt.mp c_225
          refine lv_iconst (v := (1 : Int32)) hx hb dX6_succeeds_228 (by decide) ?_
          refine lv_goto (tgt := 233) hx hb dX6_succeeds_229 (by decide) ?_
          have eR21 : (mPost (M 1) R P) = msS (M 1) R P g := by (simp [msS, e27_4, c_205, c_214, c_225, c_225n]; done)
          rw [eR21] at hP hD
          exact hend _ _ _ _ _ _ _ (by decide) (E222, mcR (M 1) R P (M 10) 6) hP hD hS (Nat.le_of_ble_eq_true rfl) (Nat.le_of_ble_eq_true rfl) (by first | (simp [msB, bI, e27_4, c_205, c_214, c_225, c_225n]; done)) dX6_succeeds_233
  by_cases e27_5 : g / 1000 = 5
  · rw [show nI (g / 1000) = (5 : Int32) from rfl.trans (congrArg nI e27_5)]
    refine lv_tableIn (off := 207) (tgt := 234) hx hb dX6_succeeds_27 (by decide) (by decide) (by decide) (by decide) ?_
    refine lv_iload_n hx hb dX6_succeeds_234 rfl (lv_at hl 4 rfl) ?_
    refine lv_sipush (v := (5000 : Int32)) hx hb dX6_succeeds_235 (by decide) ?_
    refine xn_icmp_ne (tgt := 266) hx hb g 5000 rfl rfl (by omega) (by decide) dX6_succeeds_238 (by decide) (fun c_238 => ?_) (fun c_238 => ?_)
    · skip
      refine lv_iconst (v := (0 : Int32)) hx hb dX6_succeeds_266 (by decide) ?_
      have hP : va_P K.1 vwCl (mw K h a (hrow M 1 (M 1))) H := hP
      have hD : va_D A (mw K h a (hrow M 1 (M 1))) := hD
      have eR22 : (M 1) = msS (M 1) R P g := by (simp [msS, e27_5, c_238]; done)
      have hP : va_P K.1 vwCl (mw K h a (hrow M 1 (msS (M 1) R P g))) H := by rw [← eR22]; exact hP
      have hD : va_D A (mw K h a (hrow M 1 (msS (M 1) R P g))) := by rw [← eR22]; exact hD
      exact hend _ _ _ _ _ _ _ (by decide) (M 9, M 10) hP hD hS (Nat.le_of_ble_eq_true rfl) (Nat.le_of_ble_eq_true rfl) (by first | (simp [msB, bI, e27_5, c_238]; done)) dX6_succeeds_267
    · skip
      refine lv_aload_n hx hb dX6_succeeds_241 rfl (lv_at hl 3 rfl) ?_
      refine va_get (ci := 6) (v := .ref (a 1)) (C := RX6) (T := TX6) (N := 14) hx hb hts hi6 hown hK hP 0 rfl rfl 1 (by decide) lk13 (fun _ h9 => h9) rfl dX6_succeeds_242 ?_
      refine lv_iconst (v := (3 : Int32)) hx hb dX6_succeeds_245 (by decide) ?_
      refine xi_ld hx hb hK hP 2 (f := M 1) rfl 3 rfl (by omega) (by decide) dX6_succeeds_246 ?_
      refine xn_if_le (tgt := 266) hx hb R hR0 (by omega) dX6_succeeds_247 (by decide) (fun c_247 => ?_) (fun c_247 => ?_)
      · skip
        refine lv_iconst (v := (0 : Int32)) hx hb dX6_succeeds_266 (by decide) ?_
        have hP : va_P K.1 vwCl (mw K h a (hrow M 1 (M 1))) H := hP
        have hD : va_D A (mw K h a (hrow M 1 (M 1))) := hD
        have eR23 : (M 1) = msS (M 1) R P g := by (simp [msS, e27_5, c_238, c_247]; done)
        have hP : va_P K.1 vwCl (mw K h a (hrow M 1 (msS (M 1) R P g))) H := by rw [← eR23]; exact hP
        have hD : va_D A (mw K h a (hrow M 1 (msS (M 1) R P g))) := by rw [← eR23]; exact hD
        exact hend _ _ _ _ _ _ _ (by decide) (M 9, M 10) hP hD hS (Nat.le_of_ble_eq_true rfl) (Nat.le_of_ble_eq_true rfl) (by first | (simp [msB, bI, e27_5, c_238, c_247]; done)) dX6_succeeds_267
      · skip
        refine lv_aload_n hx hb dX6_succeeds_250 rfl (lv_at hl 3 rfl) ?_
        refine lv_aload_n hx hb dX6_succeeds_251 rfl (lv_at hl 3 rfl) ?_
        refine va_get (ci := 6) (v := .ref (a 1)) (C := RX6) (T := TX6) (N := 14) hx hb hts hi6 hown hK hP 0 rfl rfl 1 (by decide) lk13 (fun _ h9 => h9) rfl dX6_succeeds_252 ?_
        refine xw_Vi (As := [.ref (a 1)]) (rest := []) (wc := mw K h a M) (wr := (List.filterMap (fun i => (mw K h a M : va_W)[i]?) ([] : List Nat))) ⟨hx, hb, hml, hown, hts⟩ (c_X6_plays_t l K h a M R hR0 (by omega) P hP0 (by omega) (by first | assumption | omega) H.size) (cwV 1 hts gX6_succeeds_X6_plays rfl rfl rfl (by decide +kernel) ⟨Nat.le_of_ble_eq_true rfl, Nat.le_of_ble_eq_true rfl⟩) hK hP hD hS hA [0, 1, 2, 3, 4, 5, 6, 7, 8, 9] [] [0, 1, 2, 3, 4, 5, 6, 7, 8, 9] rfl rfl rfl (fun E255 => mw K h a (hrow (hrow (hrow M 1 (mPlay (M 1) R P)) 9 E255) 10 (mcR (M 1) R P (M 10) 6))) (fun _ => rfl) 0 6 rfl rfl rfl rfl hl.1 rfl (Nat.le_of_ble_eq_true rfl) (Nat.le_of_ble_eq_true rfl) (Nat.le_of_ble_eq_true rfl) dX6_succeeds_255 (fun r255 E255 H locs hq255 hP hD hS => ?_)
        have hP : va_P K.1 vwCl (mw K h a (hrow (hrow (hrow M 1 (mPlay (M 1) R P)) 9 E255) 10 (mcR (M 1) R P (M 10) 6))) H := hP
        have hD : va_D A (mw K h a (hrow (hrow (hrow M 1 (mPlay (M 1) R P)) 9 E255) 10 (mcR (M 1) R P (M 10) 6))) := hD
        have hq255 : r255 = mPaid (M 1) R P := hq255
        subst hq255
        refine lv_iconst (v := (-1 : Int32)) hx hb dX6_succeeds_258 (by decide) ?_
        refine lv_icmp_eq (tgt := 266) hx hb dX6_succeeds_259 (by decide) (fun c_259 => ?_) (fun c_259 => ?_)
        · skip
          refine lv_iconst (v := (0 : Int32)) hx hb dX6_succeeds_266 (by decide) ?_
          have eR24 : (mPlay (M 1) R P) = msS (M 1) R P g := by (simp [msS, e27_5, c_238, c_247, c_259]; done)
          rw [eR24] at hP hD
          exact hend _ _ _ _ _ _ _ (by decide) (E255, mcR (M 1) R P (M 10) 6) hP hD hS (Nat.le_of_ble_eq_true rfl) (Nat.le_of_ble_eq_true rfl) (by first | (simp [msB, bI, e27_5, c_238, c_247, c_259]; done)) dX6_succeeds_267
        · skip
          refine lv_iconst (v := (1 : Int32)) hx hb dX6_succeeds_262 (by decide) ?_
          refine lv_goto (tgt := 267) hx hb dX6_succeeds_263 (by decide) ?_
          have eR25 : (mPlay (M 1) R P) = msS (M 1) R P g := by (simp [msS, e27_5, c_238, c_247, c_259]; done)
          rw [eR25] at hP hD
          exact hend _ _ _ _ _ _ _ (by decide) (E255, mcR (M 1) R P (M 10) 6) hP hD hS (Nat.le_of_ble_eq_true rfl) (Nat.le_of_ble_eq_true rfl) (by first | (simp [msB, bI, e27_5, c_238, c_247, c_259]; done)) dX6_succeeds_267
  by_cases e27_6 : g / 1000 = 6
  · rw [show nI (g / 1000) = (6 : Int32) from rfl.trans (congrArg nI e27_6)]
    refine lv_tableIn (off := 241) (tgt := 268) hx hb dX6_succeeds_27 (by decide) (by decide) (by decide) (by decide) ?_
    refine lv_iload_n hx hb dX6_succeeds_268 rfl (lv_at hl 2 rfl) ?_
    refine xn_if_ne (tgt := 292) hx hb ((g / 100) % 10) rfl (by omega) dX6_succeeds_269 (by decide) (fun c_269 => ?_) (fun c_269 => ?_)
    · skip
      refine lv_iconst (v := (0 : Int32)) hx hb dX6_succeeds_292 (by decide) ?_
      have hP : va_P K.1 vwCl (mw K h a (hrow M 1 (M 1))) H := hP
      have hD : va_D A (mw K h a (hrow M 1 (M 1))) := hD
      have eR26 : (M 1) = msS (M 1) R P g := by (simp [msS, e27_6, c_269]; done)
      have hP : va_P K.1 vwCl (mw K h a (hrow M 1 (msS (M 1) R P g))) H := by rw [← eR26]; exact hP
      have hD : va_D A (mw K h a (hrow M 1 (msS (M 1) R P g))) := by rw [← eR26]; exact hD
      exact hend _ _ _ _ _ _ _ (by decide) (M 9, M 10) hP hD hS (Nat.le_of_ble_eq_true rfl) (Nat.le_of_ble_eq_true rfl) (by first | (simp [msB, bI, e27_6, c_269]; done)) dX6_succeeds_293
    · skip
      refine lv_iload_n hx hb dX6_succeeds_272 rfl (lv_at hl 4 rfl) ?_
      refine lv_bipush (v := (100 : Int32)) hx hb dX6_succeeds_273 (by decide) ?_
      refine lv_irem hx hb dX6_succeeds_275 (by decide) ?_
      have e27 : (nI g) - (nI g) / (100 : Int32) * (100 : Int32) = nI (g % 100) := nn_rem rfl rfl (by omega) (by omega) (by omega)
      rw [e27]
      refine xn_if_le (tgt := 292) hx hb (g % 100) rfl (by omega) dX6_succeeds_276 (by decide) (fun c_276 => ?_) (fun c_276 => ?_)
      · skip
        refine lv_iconst (v := (0 : Int32)) hx hb dX6_succeeds_292 (by decide) ?_
        have hP : va_P K.1 vwCl (mw K h a (hrow M 1 (M 1))) H := hP
        have hD : va_D A (mw K h a (hrow M 1 (M 1))) := hD
        have eR28 : (M 1) = msS (M 1) R P g := by (simp [msS, e27_6, c_269, c_276]; done)
        have hP : va_P K.1 vwCl (mw K h a (hrow M 1 (msS (M 1) R P g))) H := by rw [← eR28]; exact hP
        have hD : va_D A (mw K h a (hrow M 1 (msS (M 1) R P g))) := by rw [← eR28]; exact hD
        exact hend _ _ _ _ _ _ _ (by decide) (M 9, M 10) hP hD hS (Nat.le_of_ble_eq_true rfl) (Nat.le_of_ble_eq_true rfl) (by first | (simp [msB, bI, e27_6, c_269, c_276]; done)) dX6_succeeds_293
      · skip
        refine lv_aload_n hx hb dX6_succeeds_279 rfl (lv_at hl 3 rfl) ?_
        refine va_get (ci := 6) (v := .ref (a 1)) (C := RX6) (T := TX6) (N := 14) hx hb hts hi6 hown hK hP 0 rfl rfl 1 (by decide) lk13 (fun _ h9 => h9) rfl dX6_succeeds_280 ?_
        refine lv_iload_n hx hb dX6_succeeds_283 rfl (lv_at hl 4 rfl) ?_
        refine lv_bipush (v := (100 : Int32)) hx hb dX6_succeeds_284 (by decide) ?_
        refine lv_irem hx hb dX6_succeeds_286 (by decide) ?_
        have e29 : (nI g) - (nI g) / (100 : Int32) * (100 : Int32) = nI (g % 100) := nn_rem rfl rfl (by omega) (by omega) (by omega)
        rw [e29]
        refine xw_Sv (As := [.ref (a 1), .int (nI (g % 100))]) (rest := []) (wc := [((a 1), aI K 190 (M 1))]) (wr := (List.filterMap (fun i => (mw K h a M : va_W)[i]?) ([0, 1, 3, 4, 5, 6, 7, 8, 9] : List Nat))) ⟨hx, hb, hml, hown, hts⟩ (c_X6_darkens l K (a 1) (M 1) (g % 100) (by omega) P hP0 (by omega) H.size) (va_cwS 2 hts gX6_succeeds_X6_darkens rfl rfl rfl (by decide +kernel) ⟨Nat.le_of_ble_eq_true rfl, Nat.le_of_ble_eq_true rfl⟩) hK hP hD hS hA [2] [0, 1, 3, 4, 5, 6, 7, 8, 9] [0, 1, 9, 2, 3, 4, 5, 6, 7, 8] rfl rfl rfl (fun _u => mw K h a (hrow M 1 (mDk (M 1) (g % 100) P))) (fun _ => rfl) rfl hl.1 rfl (Nat.le_of_ble_eq_true rfl) (Nat.le_of_ble_eq_true rfl) (Nat.le_of_ble_eq_true rfl) dX6_succeeds_287 (fun _ H locs hq287 hP hD hS => ?_)
        have hP : va_P K.1 vwCl (mw K h a (hrow M 1 (mDk (M 1) (g % 100) P))) H := hP
        have hD : va_D A (mw K h a (hrow M 1 (mDk (M 1) (g % 100) P))) := hD
        refine lv_iconst (v := (1 : Int32)) hx hb dX6_succeeds_290 (by decide) ?_
        have eR30 : (mDk (M 1) (g % 100) P) = msS (M 1) R P g := by (simp [msS, e27_6, c_269, c_276]; done)
        rw [eR30] at hP hD
        exact hend _ _ _ _ _ _ _ (by decide) (M 9, M 10) hP hD hS (Nat.le_of_ble_eq_true rfl) (Nat.le_of_ble_eq_true rfl) (by first | (simp [msB, bI, e27_6, c_269, c_276]; done)) dX6_succeeds_291
  by_cases e27_7 : g / 1000 = 7
  · rw [show nI (g / 1000) = (7 : Int32) from rfl.trans (congrArg nI e27_7)]
    refine lv_tableIn (off := 267) (tgt := 294) hx hb dX6_succeeds_27 (by decide) (by decide) (by decide) (by decide) ?_
    refine lv_iload hx hb dX6_succeeds_294 (lv_at hl 0 rfl) ?_
    refine xn_if_ne (tgt := 338) hx hb (g % 10) rfl (by omega) dX6_succeeds_296 (by decide) (fun c_296 => ?_) (fun c_296 => ?_)
    · skip
      refine lv_iconst (v := (0 : Int32)) hx hb dX6_succeeds_338 (by decide) ?_
      have hP : va_P K.1 vwCl (mw K h a (hrow M 1 (M 1))) H := hP
      have hD : va_D A (mw K h a (hrow M 1 (M 1))) := hD
      have eR31 : (M 1) = msS (M 1) R P g := by (simp [msS, e27_7, c_296]; done)
      have hP : va_P K.1 vwCl (mw K h a (hrow M 1 (msS (M 1) R P g))) H := by rw [← eR31]; exact hP
      have hD : va_D A (mw K h a (hrow M 1 (msS (M 1) R P g))) := by rw [← eR31]; exact hD
      exact hend _ _ _ _ _ _ _ (by decide) (M 9, M 10) hP hD hS (Nat.le_of_ble_eq_true rfl) (Nat.le_of_ble_eq_true rfl) (by first | (simp [msB, bI, e27_7, c_296]; done)) dX6_succeeds_339
    · skip
      refine lv_aload_n hx hb dX6_succeeds_299 rfl (lv_at hl 3 rfl) ?_
      refine va_get (ci := 6) (v := .ref (a 1)) (C := RX6) (T := TX6) (N := 14) hx hb hts hi6 hown hK hP 0 rfl rfl 1 (by decide) lk13 (fun _ h9 => h9) rfl dX6_succeeds_300 ?_
      refine lv_iload_n hx hb dX6_succeeds_303 rfl (lv_at hl 2 rfl) ?_
      have hPc := P_sub (ws' := [((a 1), aI K 190 (M 1))]) hP [2] rfl
      refine xr_S (As := [.ref (a 1), .int (nI ((g / 100) % 10))]) (rest := []) ⟨hx, hb, hml, hown, hts⟩ (c_X6_isRole_n l K (a 1) (M 1) ((g / 100) % 10) (by omega) R hR0 (by omega)) (va_cwS 2 hts gX6_succeeds_X6_isRole rfl rfl rfl (by decide +kernel) ⟨Nat.le_of_ble_eq_true rfl, Nat.le_of_ble_eq_true rfl⟩) hK hPc rfl hl.1 rfl (Nat.le_of_ble_eq_true rfl) (Nat.le_of_ble_eq_true rfl) (Nat.le_of_ble_eq_true rfl) dX6_succeeds_304 ?_
      refine xb_if_eq (tgt := 338) hx hb dX6_succeeds_307 (by decide) (fun c_307 => ?_) (fun c_307 => ?_)
      · skip
        refine lv_iconst (v := (0 : Int32)) hx hb dX6_succeeds_338 (by decide) ?_
        have hP : va_P K.1 vwCl (mw K h a (hrow M 1 (M 1))) H := hP
        have hD : va_D A (mw K h a (hrow M 1 (M 1))) := hD
        have eR32 : (M 1) = msS (M 1) R P g := by (simp [msS, e27_7, c_296, c_307]; done)
        have hP : va_P K.1 vwCl (mw K h a (hrow M 1 (msS (M 1) R P g))) H := by rw [← eR32]; exact hP
        have hD : va_D A (mw K h a (hrow M 1 (msS (M 1) R P g))) := by rw [← eR32]; exact hD
        exact hend _ _ _ _ _ _ _ (by decide) (M 9, M 10) hP hD hS (Nat.le_of_ble_eq_true rfl) (Nat.le_of_ble_eq_true rfl) (by first | (simp [msB, bI, e27_7, c_296, c_307]; done)) dX6_succeeds_339
      · skip
        refine lv_aload_n hx hb dX6_succeeds_310 rfl (lv_at hl 3 rfl) ?_
        refine va_get (ci := 6) (v := .ref (a 1)) (C := RX6) (T := TX6) (N := 14) hx hb hts hi6 hown hK hP 0 rfl rfl 1 (by decide) lk13 (fun _ h9 => h9) rfl dX6_succeeds_311 ?_
        refine lv_iload_n hx hb dX6_succeeds_314 rfl (lv_at hl 1 rfl) ?_
        have hPc := P_sub (ws' := [((a 1), aI K 190 (M 1))]) hP [2] rfl
        refine xr_S (As := [.ref (a 1), .int (nI ((g / 10) % 10))]) (rest := []) ⟨hx, hb, hml, hown, hts⟩ (c_X6_isPlayer_n l K (a 1) (M 1) ((g / 10) % 10) (by omega) P hP0 (by omega)) (va_cwS 2 hts gX6_succeeds_X6_isPlayer rfl rfl rfl (by decide +kernel) ⟨Nat.le_of_ble_eq_true rfl, Nat.le_of_ble_eq_true rfl⟩) hK hPc rfl hl.1 rfl (Nat.le_of_ble_eq_true rfl) (Nat.le_of_ble_eq_true rfl) (Nat.le_of_ble_eq_true rfl) dX6_succeeds_315 ?_
        refine xb_if_eq (tgt := 338) hx hb dX6_succeeds_318 (by decide) (fun c_318 => ?_) (fun c_318 => ?_)
        · skip
          refine lv_iconst (v := (0 : Int32)) hx hb dX6_succeeds_338 (by decide) ?_
          have hP : va_P K.1 vwCl (mw K h a (hrow M 1 (M 1))) H := hP
          have hD : va_D A (mw K h a (hrow M 1 (M 1))) := hD
          have eR33 : (M 1) = msS (M 1) R P g := by (simp [msS, e27_7, c_296, c_307, c_318]; done)
          have hP : va_P K.1 vwCl (mw K h a (hrow M 1 (msS (M 1) R P g))) H := by rw [← eR33]; exact hP
          have hD : va_D A (mw K h a (hrow M 1 (msS (M 1) R P g))) := by rw [← eR33]; exact hD
          exact hend _ _ _ _ _ _ _ (by decide) (M 9, M 10) hP hD hS (Nat.le_of_ble_eq_true rfl) (Nat.le_of_ble_eq_true rfl) (by first | (simp [msB, bI, e27_7, c_296, c_307, c_318]; done)) dX6_succeeds_339
        · skip
          refine lv_aload_n hx hb dX6_succeeds_321 rfl (lv_at hl 3 rfl) ?_
          refine lv_aload_n hx hb dX6_succeeds_322 rfl (lv_at hl 3 rfl) ?_
          refine va_get (ci := 6) (v := .ref (a 1)) (C := RX6) (T := TX6) (N := 14) hx hb hts hi6 hown hK hP 0 rfl rfl 1 (by decide) lk13 (fun _ h9 => h9) rfl dX6_succeeds_323 ?_
          refine lv_iload_n hx hb dX6_succeeds_326 rfl (lv_at hl 2 rfl) ?_
          refine xw_Vi (As := [.ref (a 1), .int (nI ((g / 100) % 10))]) (rest := []) (wc := mw K h a M) (wr := (List.filterMap (fun i => (mw K h a M : va_W)[i]?) ([] : List Nat))) ⟨hx, hb, hml, hown, hts⟩ (c_X6_castFor_t l K h a M ((g / 100) % 10) (by omega) R hR0 (by omega) P hP0 (by omega) (by first | assumption | omega) H.size) (cwV 2 hts gX6_succeeds_X6_castFor rfl rfl rfl (by decide +kernel) ⟨Nat.le_of_ble_eq_true rfl, Nat.le_of_ble_eq_true rfl⟩) hK hP hD hS hA [0, 1, 2, 3, 4, 5, 6, 7, 8, 9] [] [0, 1, 2, 3, 4, 5, 6, 7, 8, 9] rfl rfl rfl (fun E327 => mw K h a (hrow (hrow M 9 E327) 10 (mcR (M 1) R P (M 10) 6))) (fun _ => rfl) 0 6 rfl rfl rfl rfl hl.1 rfl (Nat.le_of_ble_eq_true rfl) (Nat.le_of_ble_eq_true rfl) (Nat.le_of_ble_eq_true rfl) dX6_succeeds_327 (fun r327 E327 H locs hq327 hP hD hS => ?_)
          have hP : va_P K.1 vwCl (mw K h a (hrow (hrow M 9 E327) 10 (mcR (M 1) R P (M 10) 6))) H := hP
          have hD : va_D A (mw K h a (hrow (hrow M 9 E327) 10 (mcR (M 1) R P (M 10) 6))) := hD
          have hq327 : r327 = csG (M 1) R P ((g / 100) % 10) := hq327
          subst hq327
          refine lv_iload_n hx hb dX6_succeeds_330 rfl (lv_at hl 1 rfl) ?_
          refine lv_icmp_ne (tgt := 338) hx hb dX6_succeeds_331 (by decide) (fun c_331 => ?_) (fun c_331 => ?_)
          · skip
            refine lv_iconst (v := (0 : Int32)) hx hb dX6_succeeds_338 (by decide) ?_
            have hP : va_P K.1 vwCl (mw K h a (hrow (hrow (hrow M 1 (M 1)) 9 E327) 10 (mcR (M 1) R P (M 10) 6))) H := hP
            have hD : va_D A (mw K h a (hrow (hrow (hrow M 1 (M 1)) 9 E327) 10 (mcR (M 1) R P (M 10) 6))) := hD
            have eR34 : (M 1) = msS (M 1) R P g := by (simp [msS, e27_7, c_296, c_307, c_318, c_331]; done)
            have hP : va_P K.1 vwCl (mw K h a (hrow (hrow (hrow M 1 (msS (M 1) R P g)) 9 E327) 10 (mcR (M 1) R P (M 10) 6))) H := by rw [← eR34]; exact hP
            have hD : va_D A (mw K h a (hrow (hrow (hrow M 1 (msS (M 1) R P g)) 9 E327) 10 (mcR (M 1) R P (M 10) 6))) := by rw [← eR34]; exact hD
            exact hend _ _ _ _ _ _ _ (by decide) (E327, mcR (M 1) R P (M 10) 6) hP hD hS (Nat.le_of_ble_eq_true rfl) (Nat.le_of_ble_eq_true rfl) (by first | (simp [msB, bI, e27_7, c_296, c_307, c_318, c_331]; done)) dX6_succeeds_339
          · skip
            refine lv_iconst (v := (1 : Int32)) hx hb dX6_succeeds_334 (by decide) ?_
            refine lv_goto (tgt := 339) hx hb dX6_succeeds_335 (by decide) ?_
            have hP : va_P K.1 vwCl (mw K h a (hrow (hrow (hrow M 1 (M 1)) 9 E327) 10 (mcR (M 1) R P (M 10) 6))) H := hP
            have hD : va_D A (mw K h a (hrow (hrow (hrow M 1 (M 1)) 9 E327) 10 (mcR (M 1) R P (M 10) 6))) := hD
            have eR35 : (M 1) = msS (M 1) R P g := by (simp [msS, e27_7, c_296, c_307, c_318, c_331]; done)
            have hP : va_P K.1 vwCl (mw K h a (hrow (hrow (hrow M 1 (msS (M 1) R P g)) 9 E327) 10 (mcR (M 1) R P (M 10) 6))) H := by rw [← eR35]; exact hP
            have hD : va_D A (mw K h a (hrow (hrow (hrow M 1 (msS (M 1) R P g)) 9 E327) 10 (mcR (M 1) R P (M 10) 6))) := by rw [← eR35]; exact hD
            exact hend _ _ _ _ _ _ _ (by decide) (E327, mcR (M 1) R P (M 10) 6) hP hD hS (Nat.le_of_ble_eq_true rfl) (Nat.le_of_ble_eq_true rfl) (by first | (simp [msB, bI, e27_7, c_296, c_307, c_318, c_331]; done)) dX6_succeeds_339
  by_cases e27_8 : g / 1000 = 8
  · rw [show nI (g / 1000) = (8 : Int32) from rfl.trans (congrArg nI e27_8)]
    refine lv_tableIn (off := 313) (tgt := 340) hx hb dX6_succeeds_27 (by decide) (by decide) (by decide) (by decide) ?_
    refine lv_aload_n hx hb dX6_succeeds_340 rfl (lv_at hl 3 rfl) ?_
    refine lv_aload_n hx hb dX6_succeeds_341 rfl (lv_at hl 3 rfl) ?_
    refine va_get (ci := 6) (v := .ref (a 1)) (C := RX6) (T := TX6) (N := 14) hx hb hts hi6 hown hK hP 0 rfl rfl 1 (by decide) lk13 (fun _ h9 => h9) rfl dX6_succeeds_342 ?_
    refine xw_Vi (As := [.ref (a 1)]) (rest := []) (wc := mw K h a M) (wr := (List.filterMap (fun i => (mw K h a M : va_W)[i]?) ([] : List Nat))) ⟨hx, hb, hml, hown, hts⟩ (c_X6_casts_t l K h a M R hR0 (by omega) P hP0 (by omega) (by first | assumption | omega) H.size) (cwV 1 hts gX6_succeeds_X6_casts rfl rfl rfl (by decide +kernel) ⟨Nat.le_of_ble_eq_true rfl, Nat.le_of_ble_eq_true rfl⟩) hK hP hD hS hA [0, 1, 2, 3, 4, 5, 6, 7, 8, 9] [] [0, 1, 2, 3, 4, 5, 6, 7, 8, 9] rfl rfl rfl (fun E345 => mw K h a (hrow (hrow M 9 E345) 10 (mcR (M 1) R P (M 10) 6))) (fun _ => rfl) 0 6 rfl rfl rfl rfl hl.1 rfl (Nat.le_of_ble_eq_true rfl) (Nat.le_of_ble_eq_true rfl) (Nat.le_of_ble_eq_true rfl) dX6_succeeds_345 (fun r345 E345 H locs hq345 hP hD hS => ?_)
    have hP : va_P K.1 vwCl (mw K h a (hrow (hrow M 9 E345) 10 (mcR (M 1) R P (M 10) 6))) H := hP
    have hD : va_D A (mw K h a (hrow (hrow M 9 E345) 10 (mcR (M 1) R P (M 10) 6))) := hD
    have hq345 : r345 = mStr (M 1) R P := hq345
    subst hq345
    refine lv_iload_n hx hb dX6_succeeds_348 rfl (lv_at hl 4 rfl) ?_
    refine lv_sipush (v := (1000 : Int32)) hx hb dX6_succeeds_349 (by decide) ?_
    refine lv_irem hx hb dX6_succeeds_352 (by decide) ?_
    have e36 : (nI g) - (nI g) / (1000 : Int32) * (1000 : Int32) = nI (g % 1000) := nn_rem rfl rfl (by omega) (by omega) (by omega)
    rw [e36]
    refine lv_icmp_lt (tgt := 360) hx hb dX6_succeeds_353 (by decide) (fun c_353 => ?_) (fun c_353 => ?_)
    · skip
      have c_353n := Int32.not_le.mpr c_353
      refine lv_iconst (v := (0 : Int32)) hx hb dX6_succeeds_360 (by decide) ?_
      have hP : va_P K.1 vwCl (mw K h a (hrow (hrow (hrow M 1 (M 1)) 9 E345) 10 (mcR (M 1) R P (M 10) 6))) H := hP
      have hD : va_D A (mw K h a (hrow (hrow (hrow M 1 (M 1)) 9 E345) 10 (mcR (M 1) R P (M 10) 6))) := hD
      have eR37 : (M 1) = msS (M 1) R P g := by (simp [msS, e27_8, c_353, c_353n]; done)
      have hP : va_P K.1 vwCl (mw K h a (hrow (hrow (hrow M 1 (msS (M 1) R P g)) 9 E345) 10 (mcR (M 1) R P (M 10) 6))) H := by rw [← eR37]; exact hP
      have hD : va_D A (mw K h a (hrow (hrow (hrow M 1 (msS (M 1) R P g)) 9 E345) 10 (mcR (M 1) R P (M 10) 6))) := by rw [← eR37]; exact hD
      exact hend _ _ _ _ _ _ _ (by decide) (E345, mcR (M 1) R P (M 10) 6) hP hD hS (Nat.le_of_ble_eq_true rfl) (Nat.le_of_ble_eq_true rfl) (by first | (simp [msB, bI, e27_8, c_353, c_353n]; done)) dX6_succeeds_361
    · skip
      have c_353n := Int32.not_lt.mp c_353
      refine lv_iconst (v := (1 : Int32)) hx hb dX6_succeeds_356 (by decide) ?_
      refine lv_goto (tgt := 361) hx hb dX6_succeeds_357 (by decide) ?_
      have hP : va_P K.1 vwCl (mw K h a (hrow (hrow (hrow M 1 (M 1)) 9 E345) 10 (mcR (M 1) R P (M 10) 6))) H := hP
      have hD : va_D A (mw K h a (hrow (hrow (hrow M 1 (M 1)) 9 E345) 10 (mcR (M 1) R P (M 10) 6))) := hD
      have eR38 : (M 1) = msS (M 1) R P g := by (simp [msS, e27_8, c_353, c_353n]; done)
      have hP : va_P K.1 vwCl (mw K h a (hrow (hrow (hrow M 1 (msS (M 1) R P g)) 9 E345) 10 (mcR (M 1) R P (M 10) 6))) H := by rw [← eR38]; exact hP
      have hD : va_D A (mw K h a (hrow (hrow (hrow M 1 (msS (M 1) R P g)) 9 E345) 10 (mcR (M 1) R P (M 10) 6))) := by rw [← eR38]; exact hD
      exact hend _ _ _ _ _ _ _ (by decide) (E345, mcR (M 1) R P (M 10) 6) hP hD hS (Nat.le_of_ble_eq_true rfl) (Nat.le_of_ble_eq_true rfl) (by first | (simp [msB, bI, e27_8, c_353, c_353n]; done)) dX6_succeeds_361
  by_cases e27_9 : g / 1000 = 9
  · rw [show nI (g / 1000) = (9 : Int32) from rfl.trans (congrArg nI e27_9)]
    refine lv_tableIn (off := 335) (tgt := 362) hx hb dX6_succeeds_27 (by decide) (by decide) (by decide) (by decide) ?_
    refine lv_aload_n hx hb dX6_succeeds_362 rfl (lv_at hl 3 rfl) ?_
    refine va_get (ci := 6) (v := .ref (a 1)) (C := RX6) (T := TX6) (N := 14) hx hb hts hi6 hown hK hP 0 rfl rfl 1 (by decide) lk13 (fun _ h9 => h9) rfl dX6_succeeds_363 ?_
    refine lv_iload_n hx hb dX6_succeeds_366 rfl (lv_at hl 2 rfl) ?_
    have hPc := P_sub (ws' := [((a 1), aI K 190 (M 1))]) hP [2] rfl
    refine xr_S (As := [.ref (a 1), .int (nI ((g / 100) % 10))]) (rest := []) ⟨hx, hb, hml, hown, hts⟩ (c_X6_isPlayer_n l K (a 1) (M 1) ((g / 100) % 10) (by omega) P hP0 (by omega)) (va_cwS 2 hts gX6_succeeds_X6_isPlayer rfl rfl rfl (by decide +kernel) ⟨Nat.le_of_ble_eq_true rfl, Nat.le_of_ble_eq_true rfl⟩) hK hPc rfl hl.1 rfl (Nat.le_of_ble_eq_true rfl) (Nat.le_of_ble_eq_true rfl) (Nat.le_of_ble_eq_true rfl) dX6_succeeds_367 ?_
    refine xb_if_eq (tgt := 393) hx hb dX6_succeeds_370 (by decide) (fun c_370 => ?_) (fun c_370 => ?_)
    · skip
      refine lv_iconst (v := (0 : Int32)) hx hb dX6_succeeds_393 (by decide) ?_
      have hP : va_P K.1 vwCl (mw K h a (hrow M 1 (M 1))) H := hP
      have hD : va_D A (mw K h a (hrow M 1 (M 1))) := hD
      have eR39 : (M 1) = msS (M 1) R P g := by (simp [msS, e27_9, c_370]; done)
      have hP : va_P K.1 vwCl (mw K h a (hrow M 1 (msS (M 1) R P g))) H := by rw [← eR39]; exact hP
      have hD : va_D A (mw K h a (hrow M 1 (msS (M 1) R P g))) := by rw [← eR39]; exact hD
      exact hend _ _ _ _ _ _ _ (by decide) (M 9, M 10) hP hD hS (Nat.le_of_ble_eq_true rfl) (Nat.le_of_ble_eq_true rfl) (by first | (simp [msB, bI, e27_9, c_370]; done)) dX6_succeeds_394
    · skip
      refine lv_aload_n hx hb dX6_succeeds_373 rfl (lv_at hl 3 rfl) ?_
      refine va_get (ci := 6) (v := .ref (a 1)) (C := RX6) (T := TX6) (N := 14) hx hb hts hi6 hown hK hP 0 rfl rfl 1 (by decide) lk13 (fun _ h9 => h9) rfl dX6_succeeds_374 ?_
      refine lv_bipush (v := (30 : Int32)) hx hb dX6_succeeds_377 (by decide) ?_
      refine lv_iload_n hx hb dX6_succeeds_379 rfl (lv_at hl 2 rfl) ?_
      refine lv_iadd hx hb dX6_succeeds_380 ?_
      refine xi_ld hx hb hK hP 2 (f := M 1) rfl (30 + ((g / 100) % 10)) (nn_add rfl rfl) (by omega) (by decide) dX6_succeeds_381 ?_
      refine lv_iload_n hx hb dX6_succeeds_382 rfl (lv_at hl 4 rfl) ?_
      refine lv_bipush (v := (100 : Int32)) hx hb dX6_succeeds_383 (by decide) ?_
      refine lv_irem hx hb dX6_succeeds_385 (by decide) ?_
      have e40 : (nI g) - (nI g) / (100 : Int32) * (100 : Int32) = nI (g % 100) := nn_rem rfl rfl (by omega) (by omega) (by omega)
      rw [e40]
      refine lv_icmp_lt (tgt := 393) hx hb dX6_succeeds_386 (by decide) (fun c_386 => ?_) (fun c_386 => ?_)
      · skip
        have c_386n := Int32.not_le.mpr c_386
        refine lv_iconst (v := (0 : Int32)) hx hb dX6_succeeds_393 (by decide) ?_
        have hP : va_P K.1 vwCl (mw K h a (hrow M 1 (M 1))) H := hP
        have hD : va_D A (mw K h a (hrow M 1 (M 1))) := hD
        have eR41 : (M 1) = msS (M 1) R P g := by (simp [msS, e27_9, c_370, c_386, c_386n]; done)
        have hP : va_P K.1 vwCl (mw K h a (hrow M 1 (msS (M 1) R P g))) H := by rw [← eR41]; exact hP
        have hD : va_D A (mw K h a (hrow M 1 (msS (M 1) R P g))) := by rw [← eR41]; exact hD
        exact hend _ _ _ _ _ _ _ (by decide) (M 9, M 10) hP hD hS (Nat.le_of_ble_eq_true rfl) (Nat.le_of_ble_eq_true rfl) (by first | (simp [msB, bI, e27_9, c_370, c_386, c_386n]; done)) dX6_succeeds_394
      · skip
        have c_386n := Int32.not_lt.mp c_386
        refine lv_iconst (v := (1 : Int32)) hx hb dX6_succeeds_389 (by decide) ?_
        refine lv_goto (tgt := 394) hx hb dX6_succeeds_390 (by decide) ?_
        have hP : va_P K.1 vwCl (mw K h a (hrow M 1 (M 1))) H := hP
        have hD : va_D A (mw K h a (hrow M 1 (M 1))) := hD
        have eR42 : (M 1) = msS (M 1) R P g := by (simp [msS, e27_9, c_370, c_386, c_386n]; done)
        have hP : va_P K.1 vwCl (mw K h a (hrow M 1 (msS (M 1) R P g))) H := by rw [← eR42]; exact hP
        have hD : va_D A (mw K h a (hrow M 1 (msS (M 1) R P g))) := by rw [← eR42]; exact hD
        exact hend _ _ _ _ _ _ _ (by decide) (M 9, M 10) hP hD hS (Nat.le_of_ble_eq_true rfl) (Nat.le_of_ble_eq_true rfl) (by first | (simp [msB, bI, e27_9, c_370, c_386, c_386n]; done)) dX6_succeeds_394
  refine lv_tableOut (tgt := 395) hx hb dX6_succeeds_27 (by rw [show nI (g / 1000) = nI (g / 1000) from rfl, nI_toInt (by omega)]; omega) (by decide) ?_
  refine lv_iconst (v := (0 : Int32)) hx hb dX6_succeeds_395 (by decide) ?_
  have hP : va_P K.1 vwCl (mw K h a (hrow M 1 (M 1))) H := hP
  have hD : va_D A (mw K h a (hrow M 1 (M 1))) := hD
  have eR43 : (M 1) = msS (M 1) R P g := by (simp [msS, e27_1, e27_2, e27_3, e27_4, e27_5, e27_6, e27_7, e27_8, e27_9]; done)
  have hP : va_P K.1 vwCl (mw K h a (hrow M 1 (msS (M 1) R P g))) H := by rw [← eR43]; exact hP
  have hD : va_D A (mw K h a (hrow M 1 (msS (M 1) R P g))) := by rw [← eR43]; exact hD
  exact hend _ _ _ _ _ _ _ (by decide) (M 9, M 10) hP hD hS (Nat.le_of_ble_eq_true rfl) (Nat.le_of_ble_eq_true rfl) (by first | (simp [msB, bI, e27_1, e27_2, e27_3, e27_4, e27_5, e27_6, e27_7, e27_8, e27_9]; done)) dX6_succeeds_396

abbrev rm_X6_passes : Room := { frames := 5, cells := 0, slots := 0, locals := 123 }
set_option maxHeartbeats 4000000 in
set_option maxRecDepth 100000 in
theorem c_X6_passes (l : Launch) (K : KX) (h : Nat) (a : Nat → Nat) (M : HV) (x : Nat) (hx : x < 2147483648) (R : Nat) (hR0 : M 1 3 = nI R) (hR0b : R ≤ 6) (P : Nat) (hP0 : M 1 4 = nI P) (hP0b : P ≤ 10) (hok : mOK (M 1) R P) (hP1 : 0 < P) (sz : Nat) : Met l yX6_passes wsX6_passes rm_X6_passes (va_Pc [.ref h, .int (nI x)] (xPre K (mw K h a M) sz)) (va_Qv (fun u9 : (Nat → Int32) × (Nat → Int32) => True) (fun u9 t => xPost K (va_A (mw K h a M) sz) (mw K h a (hrow (hrow (hrow M 1 (mdS (M 1) R P x)) 9 u9.1) 10 u9.2)) t) (va_A (mw K h a M) sz)) 0 0 (va_A (mw K h a M) sz) := by
  refine xw_startv (cc := cX6_passes) (maxL := 3) (by decide) rfl (Nat.le_of_ble_eq_true rfl) ?_
  intro p9 e9 s9 m9 below9 meth9 c9 H locs ls A av9 Q9 hx hb hlocks hml hname hts hown hK hP hD hS hA hsz hend hl
  have hown : s9.vm.findClass RX6 = some m9.cls := hown
  have hl : lv_has ls 3 [(0, .ref h), (1, .int (nI x))] := hl
  have hi6 : ∀ w ∈ u_ws RX6 TX6 14, w ∈ wsX6_passes := by decide +kernel
  have lk13 := hts (.fieldLink RX6 13 "StandInsModel" "trial" "[I") (by decide +kernel)
  have hxm : x / 8 % P < P := Nat.mod_lt _ hP1
  refine lv_iload_n hx hb dX6_passes_0 rfl (lv_at hl 1 rfl) ?_
  refine lv_bipush (v := (8 : Int32)) hx hb dX6_passes_1 (by decide) ?_
  refine lv_idiv hx hb dX6_passes_3 (by decide) ?_
  have e1 : (nI x) / (8 : Int32) = nI (x / 8) := nn_div rfl rfl (by omega) (by omega) (by omega)
  rw [e1]
  refine lv_aload_n hx hb dX6_passes_4 rfl (lv_at hl 0 rfl) ?_
  refine va_get (ci := 6) (v := .ref (a 1)) (C := RX6) (T := TX6) (N := 14) hx hb hts hi6 hown hK hP 0 rfl rfl 1 (by decide) lk13 (fun _ h9 => h9) rfl dX6_passes_5 ?_
  refine lv_iconst (v := (4 : Int32)) hx hb dX6_passes_8 (by decide) ?_
  refine xi_ld hx hb hK hP 2 (f := M 1) rfl 4 rfl (by omega) (by decide) dX6_passes_9 ?_
  refine lv_irem hx hb dX6_passes_10 (by intro z; have z2 := (nn_eq hP0 (rfl : (0 : Int32) = nI 0) (by omega) (by decide)).mp z; exact absurd z2 (Nat.pos_iff_ne_zero.mp hP1)) ?_
  have e2 : (nI (x / 8)) - (nI (x / 8)) / (M 1 4) * (M 1 4) = nI ((x / 8) % P) := nn_rem rfl hP0 (by omega) (by omega) (by omega)
  rw [e2]
  refine lv_istore_n (lv' := [(2, .int (nI ((x / 8) % P))), (0, .ref h), (1, .int (nI x))]) hx hb dX6_passes_11 rfl hl (by decide) rfl (fun ls hl => ?_)
  refine lv_iload_n hx hb dX6_passes_12 rfl (lv_at hl 2 rfl) ?_
  refine lv_bipush (v := (8 : Int32)) hx hb dX6_passes_13 (by decide) ?_
  refine lv_irem hx hb dX6_passes_15 (by decide) ?_
  have e3 : (nI x) - (nI x) / (8 : Int32) * (8 : Int32) = nI (x % 8) := nn_rem rfl rfl (by omega) (by omega) (by omega)
  rw [e3]
  refine lv_iconst (v := (2 : Int32)) hx hb dX6_passes_16 (by decide) ?_
  refine xn_icmp_ne (tgt := 29) hx hb (x % 8) 2 rfl rfl (by omega) (by decide) dX6_passes_17 (by decide) (fun c_17 => ?_) (fun c_17 => ?_)
  · skip
    refine lv_iload_n hx hb dX6_passes_29 rfl (lv_at hl 2 rfl) ?_
    refine lv_bipush (v := (8 : Int32)) hx hb dX6_passes_30 (by decide) ?_
    refine lv_irem hx hb dX6_passes_32 (by decide) ?_
    have e4 : (nI x) - (nI x) / (8 : Int32) * (8 : Int32) = nI (x % 8) := nn_rem rfl rfl (by omega) (by omega) (by omega)
    rw [e4]
    refine xn_if_ne (tgt := 61) hx hb (x % 8) rfl (by omega) dX6_passes_33 (by decide) (fun c_33 => ?_) (fun c_33 => ?_)
    · skip
      refine lv_iload_n hx hb dX6_passes_61 rfl (lv_at hl 2 rfl) ?_
      refine lv_bipush (v := (8 : Int32)) hx hb dX6_passes_62 (by decide) ?_
      refine lv_irem hx hb dX6_passes_64 (by decide) ?_
      have e5 : (nI x) - (nI x) / (8 : Int32) * (8 : Int32) = nI (x % 8) := nn_rem rfl rfl (by omega) (by omega) (by omega)
      rw [e5]
      refine lv_iconst (v := (1 : Int32)) hx hb dX6_passes_65 (by decide) ?_
      refine xn_icmp_ne (tgt := 95) hx hb (x % 8) 1 rfl rfl (by omega) (by decide) dX6_passes_66 (by decide) (fun c_66 => ?_) (fun c_66 => ?_)
      · skip
        refine lv_aload_n hx hb dX6_passes_95 rfl (lv_at hl 1 rfl) ?_
        refine lv_aload_n hx hb dX6_passes_96 rfl (lv_at hl 1 rfl) ?_
        refine va_get (ci := 6) (v := .ref (a 1)) (C := RX6) (T := TX6) (N := 14) hx hb hts hi6 hown hK hP 0 rfl rfl 1 (by decide) lk13 (fun _ h9 => h9) rfl dX6_passes_97 ?_
        refine xw_Vi (As := [.ref (a 1)]) (rest := []) (wc := mw K h a M) (wr := (List.filterMap (fun i => (mw K h a M : va_W)[i]?) ([] : List Nat))) ⟨hx, hb, hml, hown, hts⟩ (c_X6_plays_t l K h a M R hR0 (by omega) P hP0 (by omega) (by first | exact hok | exact mOK_lk hR0b hP0b (by omega) hok | exact mOK_lk hR0b hP0b (by omega) (mOK_post hR0b hP0b hok)) H.size) (cwV 1 hts gX6_passes_X6_plays rfl rfl rfl (by decide +kernel) ⟨Nat.le_of_ble_eq_true rfl, Nat.le_of_ble_eq_true rfl⟩) hK hP hD hS hA [0, 1, 2, 3, 4, 5, 6, 7, 8, 9] [] [0, 1, 2, 3, 4, 5, 6, 7, 8, 9] rfl rfl rfl (fun E100 => mw K h a (hrow (hrow (hrow M 1 (mPlay (M 1) R P)) 9 E100) 10 (mcR (M 1) R P (M 10) 6))) (fun _ => rfl) 0 6 rfl rfl rfl rfl hl.1 rfl (Nat.le_of_ble_eq_true rfl) (Nat.le_of_ble_eq_true rfl) (Nat.le_of_ble_eq_true rfl) dX6_passes_100 (fun r100 E100 H locs hq100 hP hD hS => ?_)
        have hP : va_P K.1 vwCl (mw K h a (hrow (hrow (hrow M 1 (mPlay (M 1) R P)) 9 E100) 10 (mcR (M 1) R P (M 10) 6))) H := hP
        have hD : va_D A (mw K h a (hrow (hrow (hrow M 1 (mPlay (M 1) R P)) 9 E100) 10 (mcR (M 1) R P (M 10) 6))) := hD
        have hq100 : r100 = mPaid (M 1) R P := hq100
        subst hq100
        refine lv_pop hx hb dX6_passes_103 rfl ?_
        have eR6 : (mPlay (M 1) R P) = mdS (M 1) R P x := by (simp [mdS, c_17, c_33, c_66]; done)
        rw [eR6] at hP hD
        exact hend _ _ _ _ _ _ (E100, mcR (M 1) R P (M 10) 6) hP hD hS (Nat.le_of_ble_eq_true rfl) (Nat.le_of_ble_eq_true rfl) trivial dX6_passes_104
      · skip
        refine lv_aload_n hx hb dX6_passes_69 rfl (lv_at hl 1 rfl) ?_
        refine lv_aload_n hx hb dX6_passes_70 rfl (lv_at hl 1 rfl) ?_
        refine va_get (ci := 6) (v := .ref (a 1)) (C := RX6) (T := TX6) (N := 14) hx hb hts hi6 hown hK hP 0 rfl rfl 1 (by decide) lk13 (fun _ h9 => h9) rfl dX6_passes_71 ?_
        refine xw_Vi (As := [.ref (a 1)]) (rest := []) (wc := mw K h a M) (wr := (List.filterMap (fun i => (mw K h a M : va_W)[i]?) ([] : List Nat))) ⟨hx, hb, hml, hown, hts⟩ (c_X6_posts_t l K h a M R hR0 (by omega) P hP0 (by omega) hok H.size) (cwV 1 hts gX6_passes_X6_posts rfl rfl rfl (by decide +kernel) ⟨Nat.le_of_ble_eq_true rfl, Nat.le_of_ble_eq_true rfl⟩) hK hP hD hS hA [0, 1, 2, 3, 4, 5, 6, 7, 8, 9] [] [0, 1, 2, 3, 4, 5, 6, 7, 8, 9] rfl rfl rfl (fun E74 => mw K h a (hrow (hrow (hrow M 1 (mPost (M 1) R P)) 9 E74) 10 (mcR (M 1) R P (M 10) 6))) (fun _ => rfl) 0 6 rfl rfl rfl rfl hl.1 rfl (Nat.le_of_ble_eq_true rfl) (Nat.le_of_ble_eq_true rfl) (Nat.le_of_ble_eq_true rfl) dX6_passes_74 (fun r74 E74 H locs hq74 hP hD hS => ?_)
        have hP : va_P K.1 vwCl (mw K h a (hrow (hrow (hrow M 1 (mPost (M 1) R P)) 9 E74) 10 (mcR (M 1) R P (M 10) 6))) H := hP
        have hD : va_D A (mw K h a (hrow (hrow (hrow M 1 (mPost (M 1) R P)) 9 E74) 10 (mcR (M 1) R P (M 10) 6))) := hD
        have hq74 : r74 = mStr (M 1) R P := hq74
        subst hq74
        refine lv_pop hx hb dX6_passes_77 rfl ?_
        refine lv_aload_n hx hb dX6_passes_78 rfl (lv_at hl 1 rfl) ?_
        refine va_get (ci := 6) (v := .ref (a 1)) (C := RX6) (T := TX6) (N := 14) hx hb hts hi6 hown hK hP 0 rfl rfl 1 (by decide) lk13 (fun _ h9 => h9) rfl dX6_passes_79 ?_
        refine lv_bipush (v := (50 : Int32)) hx hb dX6_passes_82 (by decide) ?_
        refine lv_iload_n hx hb dX6_passes_84 rfl (lv_at hl 0 rfl) ?_
        refine lv_iadd hx hb dX6_passes_85 ?_
        refine lv_aload_n hx hb dX6_passes_86 rfl (lv_at hl 1 rfl) ?_
        refine va_get (ci := 6) (v := .ref (a 1)) (C := RX6) (T := TX6) (N := 14) hx hb hts hi6 hown hK hP 0 rfl rfl 1 (by decide) lk13 (fun _ h9 => h9) rfl dX6_passes_87 ?_
        refine lv_iconst (v := (0 : Int32)) hx hb dX6_passes_90 (by decide) ?_
        refine xi_ld hx hb hK hP 2 (f := (mPost (M 1) R P)) rfl 0 rfl (by omega) (by decide) dX6_passes_91 ?_
        refine lv_iconst (v := (1 : Int32)) hx hb dX6_passes_92 (by decide) ?_
        refine lv_iadd hx hb dX6_passes_93 ?_
        refine xi_st hx hb hK hP hD hS 2 (f := (mPost (M 1) R P)) rfl (50 + ((x / 8) % P)) (nn_add rfl rfl) (by omega) (by decide) (mw K h a (hrow (hrow (hrow M 1 (upd (mPost (M 1) R P) (50 + ((x / 8) % P)) (((mPost (M 1) R P) 0) + (1 : Int32)))) 9 E74) 10 (mcR (M 1) R P (M 10) 6))) rfl dX6_passes_94 (fun H locs hP hD hS => ?_)
        refine lv_aload_n hx hb dX6_passes_95 rfl (lv_at hl 1 rfl) ?_
        refine lv_aload_n hx hb dX6_passes_96 rfl (lv_at hl 1 rfl) ?_
        refine va_get (ci := 6) (v := .ref (a 1)) (C := RX6) (T := TX6) (N := 14) hx hb hts hi6 hown hK hP 0 rfl rfl 1 (by decide) lk13 (fun _ h9 => h9) rfl dX6_passes_97 ?_
        refine xw_Vi (As := [.ref (a 1)]) (rest := []) (wc := mw K h a (hrow (hrow (hrow M 1 (upd (mPost (M 1) R P) (50 + ((x / 8) % P)) (((mPost (M 1) R P) 0) + (1 : Int32)))) 9 E74) 10 (mcR (M 1) R P (M 10) 6))) (wr := (List.filterMap (fun i => (mw K h a (hrow (hrow (hrow M 1 (upd (mPost (M 1) R P) (50 + ((x / 8) % P)) (((mPost (M 1) R P) 0) + (1 : Int32)))) 9 E74) 10 (mcR (M 1) R P (M 10) 6)) : va_W)[i]?) ([] : List Nat))) ⟨hx, hb, hml, hown, hts⟩ (c_X6_plays_t l K h a (hrow (hrow (hrow M 1 (upd (mPost (M 1) R P) (50 + ((x / 8) % P)) (((mPost (M 1) R P) 0) + (1 : Int32)))) 9 E74) 10 (mcR (M 1) R P (M 10) 6)) R (mk_un (by omega) (km_post (by decide) hR0)) (by omega) P (mk_un (by omega) (km_post (by decide) hP0)) (by omega) (by first | exact hok | exact mOK_lk hR0b hP0b (by omega) hok | exact mOK_lk hR0b hP0b (by omega) (mOK_post hR0b hP0b hok)) H.size) (cwV 1 hts gX6_passes_X6_plays rfl rfl rfl (by decide +kernel) ⟨Nat.le_of_ble_eq_true rfl, Nat.le_of_ble_eq_true rfl⟩) hK hP hD hS hA [0, 1, 2, 3, 4, 5, 6, 7, 8, 9] [] [0, 1, 2, 3, 4, 5, 6, 7, 8, 9] rfl rfl rfl (fun E100 => mw K h a (hrow (hrow (hrow M 1 (mPlay ((upd (mPost (M 1) R P) (50 + ((x / 8) % P)) (((mPost (M 1) R P) 0) + (1 : Int32)))) R P)) 9 E100) 10 (mcR ((upd (mPost (M 1) R P) (50 + ((x / 8) % P)) (((mPost (M 1) R P) 0) + (1 : Int32)))) R P ((mcR (M 1) R P (M 10) 6)) 6))) (fun _ => rfl) 0 6 rfl rfl rfl rfl hl.1 rfl (Nat.le_of_ble_eq_true rfl) (Nat.le_of_ble_eq_true rfl) (Nat.le_of_ble_eq_true rfl) dX6_passes_100 (fun r100 E100 H locs hq100 hP hD hS => ?_)
        have hP : va_P K.1 vwCl (mw K h a (hrow (hrow (hrow M 1 (mPlay ((upd (mPost (M 1) R P) (50 + ((x / 8) % P)) (((mPost (M 1) R P) 0) + (1 : Int32)))) R P)) 9 E100) 10 (mcR ((upd (mPost (M 1) R P) (50 + ((x / 8) % P)) (((mPost (M 1) R P) 0) + (1 : Int32)))) R P ((mcR (M 1) R P (M 10) 6)) 6))) H := hP
        have hD : va_D A (mw K h a (hrow (hrow (hrow M 1 (mPlay ((upd (mPost (M 1) R P) (50 + ((x / 8) % P)) (((mPost (M 1) R P) 0) + (1 : Int32)))) R P)) 9 E100) 10 (mcR ((upd (mPost (M 1) R P) (50 + ((x / 8) % P)) (((mPost (M 1) R P) 0) + (1 : Int32)))) R P ((mcR (M 1) R P (M 10) 6)) 6))) := hD
        have hq100 : r100 = mPaid ((upd (mPost (M 1) R P) (50 + ((x / 8) % P)) (((mPost (M 1) R P) 0) + (1 : Int32)))) R P := hq100
        subst hq100
        refine lv_pop hx hb dX6_passes_103 rfl ?_
        have eR7 : (mPlay ((upd (mPost (M 1) R P) (50 + ((x / 8) % P)) (((mPost (M 1) R P) 0) + (1 : Int32)))) R P) = mdS (M 1) R P x := by (simp [mdS, c_17, c_33, c_66]; done)
        rw [eR7] at hP hD
        exact hend _ _ _ _ _ _ (E100, mcR ((upd (mPost (M 1) R P) (50 + ((x / 8) % P)) (((mPost (M 1) R P) 0) + (1 : Int32)))) R P ((mcR (M 1) R P (M 10) 6)) 6) hP hD hS (Nat.le_of_ble_eq_true rfl) (Nat.le_of_ble_eq_true rfl) trivial dX6_passes_104
    · skip
      refine lv_aload_n hx hb dX6_passes_36 rfl (lv_at hl 1 rfl) ?_
      refine va_get (ci := 6) (v := .ref (a 1)) (C := RX6) (T := TX6) (N := 14) hx hb hts hi6 hown hK hP 0 rfl rfl 1 (by decide) lk13 (fun _ h9 => h9) rfl dX6_passes_37 ?_
      refine lv_bipush (v := (50 : Int32)) hx hb dX6_passes_40 (by decide) ?_
      refine lv_iload_n hx hb dX6_passes_42 rfl (lv_at hl 0 rfl) ?_
      refine lv_iadd hx hb dX6_passes_43 ?_
      refine lv_aload_n hx hb dX6_passes_44 rfl (lv_at hl 1 rfl) ?_
      refine va_get (ci := 6) (v := .ref (a 1)) (C := RX6) (T := TX6) (N := 14) hx hb hts hi6 hown hK hP 0 rfl rfl 1 (by decide) lk13 (fun _ h9 => h9) rfl dX6_passes_45 ?_
      refine lv_iconst (v := (0 : Int32)) hx hb dX6_passes_48 (by decide) ?_
      refine xi_ld hx hb hK hP 2 (f := M 1) rfl 0 rfl (by omega) (by decide) dX6_passes_49 ?_
      refine lv_iconst (v := (1 : Int32)) hx hb dX6_passes_50 (by decide) ?_
      refine lv_iadd hx hb dX6_passes_51 ?_
      refine lv_iload_n hx hb dX6_passes_52 rfl (lv_at hl 2 rfl) ?_
      refine lv_sipush (v := (128 : Int32)) hx hb dX6_passes_53 (by decide) ?_
      refine lv_idiv hx hb dX6_passes_56 (by decide) ?_
      have e8 : (nI x) / (128 : Int32) = nI (x / 128) := nn_div rfl rfl (by omega) (by omega) (by omega)
      rw [e8]
      refine lv_iconst (v := (5 : Int32)) hx hb dX6_passes_57 (by decide) ?_
      refine lv_irem hx hb dX6_passes_58 (by decide) ?_
      have e9 : (nI (x / 128)) - (nI (x / 128)) / (5 : Int32) * (5 : Int32) = nI ((x / 128) % 5) := nn_rem rfl rfl (by omega) (by omega) (by omega)
      rw [e9]
      refine lv_iadd hx hb dX6_passes_59 ?_
      refine xi_st hx hb hK hP hD hS 2 (f := M 1) rfl (50 + ((x / 8) % P)) (nn_add rfl rfl) (by omega) (by decide) (mw K h a (hrow M 1 (upd (M 1) (50 + ((x / 8) % P)) (((M 1 0) + (1 : Int32)) + (nI ((x / 128) % 5)))))) rfl dX6_passes_60 (fun H locs hP hD hS => ?_)
      refine lv_iload_n hx hb dX6_passes_61 rfl (lv_at hl 2 rfl) ?_
      refine lv_bipush (v := (8 : Int32)) hx hb dX6_passes_62 (by decide) ?_
      refine lv_irem hx hb dX6_passes_64 (by decide) ?_
      have e10 : (nI x) - (nI x) / (8 : Int32) * (8 : Int32) = nI (x % 8) := nn_rem rfl rfl (by omega) (by omega) (by omega)
      rw [e10]
      refine lv_iconst (v := (1 : Int32)) hx hb dX6_passes_65 (by decide) ?_
      refine xn_icmp_ne (tgt := 95) hx hb (x % 8) 1 rfl rfl (by omega) (by decide) dX6_passes_66 (by decide) (fun c_66 => ?_) (fun c_66 => ?_)
      · skip
        refine lv_aload_n hx hb dX6_passes_95 rfl (lv_at hl 1 rfl) ?_
        refine lv_aload_n hx hb dX6_passes_96 rfl (lv_at hl 1 rfl) ?_
        refine va_get (ci := 6) (v := .ref (a 1)) (C := RX6) (T := TX6) (N := 14) hx hb hts hi6 hown hK hP 0 rfl rfl 1 (by decide) lk13 (fun _ h9 => h9) rfl dX6_passes_97 ?_
        refine xw_Vi (As := [.ref (a 1)]) (rest := []) (wc := mw K h a (hrow M 1 (upd (M 1) (50 + ((x / 8) % P)) (((M 1 0) + (1 : Int32)) + (nI ((x / 128) % 5)))))) (wr := (List.filterMap (fun i => (mw K h a (hrow M 1 (upd (M 1) (50 + ((x / 8) % P)) (((M 1 0) + (1 : Int32)) + (nI ((x / 128) % 5))))) : va_W)[i]?) ([] : List Nat))) ⟨hx, hb, hml, hown, hts⟩ (c_X6_plays_t l K h a (hrow M 1 (upd (M 1) (50 + ((x / 8) % P)) (((M 1 0) + (1 : Int32)) + (nI ((x / 128) % 5))))) R (mk_un (by omega) hR0) (by omega) P (mk_un (by omega) hP0) (by omega) (by first | exact hok | exact mOK_lk hR0b hP0b (by omega) hok | exact mOK_lk hR0b hP0b (by omega) (mOK_post hR0b hP0b hok)) H.size) (cwV 1 hts gX6_passes_X6_plays rfl rfl rfl (by decide +kernel) ⟨Nat.le_of_ble_eq_true rfl, Nat.le_of_ble_eq_true rfl⟩) hK hP hD hS hA [0, 1, 2, 3, 4, 5, 6, 7, 8, 9] [] [0, 1, 2, 3, 4, 5, 6, 7, 8, 9] rfl rfl rfl (fun E100 => mw K h a (hrow (hrow (hrow M 1 (mPlay ((upd (M 1) (50 + ((x / 8) % P)) (((M 1 0) + (1 : Int32)) + (nI ((x / 128) % 5))))) R P)) 9 E100) 10 (mcR ((upd (M 1) (50 + ((x / 8) % P)) (((M 1 0) + (1 : Int32)) + (nI ((x / 128) % 5))))) R P (M 10) 6))) (fun _ => rfl) 0 6 rfl rfl rfl rfl hl.1 rfl (Nat.le_of_ble_eq_true rfl) (Nat.le_of_ble_eq_true rfl) (Nat.le_of_ble_eq_true rfl) dX6_passes_100 (fun r100 E100 H locs hq100 hP hD hS => ?_)
        have hP : va_P K.1 vwCl (mw K h a (hrow (hrow (hrow M 1 (mPlay ((upd (M 1) (50 + ((x / 8) % P)) (((M 1 0) + (1 : Int32)) + (nI ((x / 128) % 5))))) R P)) 9 E100) 10 (mcR ((upd (M 1) (50 + ((x / 8) % P)) (((M 1 0) + (1 : Int32)) + (nI ((x / 128) % 5))))) R P (M 10) 6))) H := hP
        have hD : va_D A (mw K h a (hrow (hrow (hrow M 1 (mPlay ((upd (M 1) (50 + ((x / 8) % P)) (((M 1 0) + (1 : Int32)) + (nI ((x / 128) % 5))))) R P)) 9 E100) 10 (mcR ((upd (M 1) (50 + ((x / 8) % P)) (((M 1 0) + (1 : Int32)) + (nI ((x / 128) % 5))))) R P (M 10) 6))) := hD
        have hq100 : r100 = mPaid ((upd (M 1) (50 + ((x / 8) % P)) (((M 1 0) + (1 : Int32)) + (nI ((x / 128) % 5))))) R P := hq100
        subst hq100
        refine lv_pop hx hb dX6_passes_103 rfl ?_
        have eR11 : (mPlay ((upd (M 1) (50 + ((x / 8) % P)) (((M 1 0) + (1 : Int32)) + (nI ((x / 128) % 5))))) R P) = mdS (M 1) R P x := by (simp [mdS, c_17, c_33, c_66]; done)
        rw [eR11] at hP hD
        exact hend _ _ _ _ _ _ (E100, mcR ((upd (M 1) (50 + ((x / 8) % P)) (((M 1 0) + (1 : Int32)) + (nI ((x / 128) % 5))))) R P (M 10) 6) hP hD hS (Nat.le_of_ble_eq_true rfl) (Nat.le_of_ble_eq_true rfl) trivial dX6_passes_104
      · omega
  · skip
    refine lv_aload_n hx hb dX6_passes_20 rfl (lv_at hl 1 rfl) ?_
    refine va_get (ci := 6) (v := .ref (a 1)) (C := RX6) (T := TX6) (N := 14) hx hb hts hi6 hown hK hP 0 rfl rfl 1 (by decide) lk13 (fun _ h9 => h9) rfl dX6_passes_21 ?_
    refine lv_iconst (v := (1 : Int32)) hx hb dX6_passes_24 (by decide) ?_
    refine xw_Sv (As := [.ref (a 1), .int (1 : Int32)]) (rest := []) (wc := [((a 1), aI K 190 (M 1))]) (wr := (List.filterMap (fun i => (mw K h a M : va_W)[i]?) ([0, 1, 3, 4, 5, 6, 7, 8, 9] : List Nat))) ⟨hx, hb, hml, hown, hts⟩ (c_X6_darkens l K (a 1) (M 1) 1 (by omega) P hP0 (by omega) H.size) (va_cwS 2 hts gX6_passes_X6_darkens rfl rfl rfl (by decide +kernel) ⟨Nat.le_of_ble_eq_true rfl, Nat.le_of_ble_eq_true rfl⟩) hK hP hD hS hA [2] [0, 1, 3, 4, 5, 6, 7, 8, 9] [0, 1, 9, 2, 3, 4, 5, 6, 7, 8] rfl rfl rfl (fun _u => mw K h a (hrow M 1 (mDk (M 1) 1 P))) (fun _ => rfl) rfl hl.1 rfl (Nat.le_of_ble_eq_true rfl) (Nat.le_of_ble_eq_true rfl) (Nat.le_of_ble_eq_true rfl) dX6_passes_25 (fun _ H locs hq25 hP hD hS => ?_)
    have hP : va_P K.1 vwCl (mw K h a (hrow M 1 (mDk (M 1) 1 P))) H := hP
    have hD : va_D A (mw K h a (hrow M 1 (mDk (M 1) 1 P))) := hD
    have eR12 : (mDk (M 1) 1 P) = mdS (M 1) R P x := by (simp [mdS, c_17]; done)
    rw [eR12] at hP hD
    exact hend _ _ _ _ _ _ (M 9, M 10) hP hD hS (Nat.le_of_ble_eq_true rfl) (Nat.le_of_ble_eq_true rfl) trivial dX6_passes_28

theorem lm_run {n : Int32} {x : Int64} (h : inR n 1 3) (a : ¬ x < 0) (b : x < lN (lmM n)) : kRunM n x = 0 := if_pos ⟨h, a, b⟩
theorem lx_nn {x : Int64} (h : 0 < x ∨ x = 0) : ¬ x < 0 := by
  rcases h with h | h
  · exact Int64.not_lt.mpr (Int64.le_of_lt h)
  · rw [h]
    decide
theorem lx_lt {x y : Int64} (a : ¬ y < x) (b : ¬ x = y) : x < y := by
  have h1 : ¬ y.toInt < x.toInt := fun h => a (Int64.lt_iff_toInt_lt.mpr h)
  have h2 : ¬ x.toInt = y.toInt := fun h => b (Int64.toInt_inj.mp h)
  exact Int64.lt_iff_toInt_lt.mpr (by omega)
theorem lx_ge {x y : Int64} (h : y < x ∨ x = y) : ¬ x < y := by
  rcases h with h | h
  · exact Int64.not_lt.mpr (Int64.le_of_lt h)
  · rw [h]
    exact Int64.not_lt.mpr (Int64.le_refl y)
theorem lx_neg {x : Int64} (a : ¬ (0 : Int64) < x) (b : ¬ x = 0) : x < 0 := lx_lt a b

abbrev rm_X6_runScript : Room := { frames := 6, cells := 0, slots := 0, locals := 147 }
set_option maxHeartbeats 4000000 in
set_option maxRecDepth 100000 in
theorem c_X6_runScript (l : Launch) (K : KX) (h : Nat) (a : Nat → Nat) (M : HV) (n : Int32) (x9 : Int64) (R : Nat) (hR0 : M 0 3 = nI R) (hR0b : R ≤ 6) (P : Nat) (hP0 : M 0 4 = nI P) (hP0b : P ≤ 10) (hmo : ∀ i, i < cN n → mOK (mfS (M 0) R P (cN n) (sN x9) i) R P) (sz : Nat) : Met l yX6_runScript wsX6_runScript rm_X6_runScript (va_Pc [.ref h, .int n, .long x9] (xPre K (mw K h a M) sz)) (va_Qi (fun (r9 : Int32) (u9 : (Nat → Int32) × (Nat → Int32) × (Nat → Int32)) => kRunM n x9 = 0 → r9 = fstF (mfF (M 0) R P (cN n) (sN x9)) 0 (cN n)) (fun u9 t => xPost K (va_A (mw K h a M) sz) (mw K h a (hput (hrow (hrow (hrow M 1 u9.1) 9 u9.2.1) 10 u9.2.2) 8 (nI (kRunM n x9)))) t) (va_A (mw K h a M) sz)) 0 0 (va_A (mw K h a M) sz) := by
  refine xw_starti (cc := cX6_runScript) (maxL := 10) (by decide) rfl (Nat.le_of_ble_eq_true rfl) ?_
  intro p9 e9 s9 m9 below9 meth9 c9 H locs ls A av9 Q9 hx hb hlocks hml hname hts hown hK hP hD hS hA hsz hend hl
  have hown : s9.vm.findClass RX6 = some m9.cls := hown
  have hl : lv_has ls 10 [(0, .ref h), (1, .int n), (2, .long x9)] := hl
  have hi6 : ∀ w ∈ u_ws RX6 TX6 14, w ∈ wsX6_runScript := by decide +kernel
  have lk42 := hts (.fieldLink RX6 42 "StandInsModel" "thrown" "I") (by decide +kernel)
  refine lv_aload_n hx hb dX6_runScript_0 rfl (lv_at hl 0 rfl) ?_
  refine lv_iconst (v := (0 : Int32)) hx hb dX6_runScript_1 (by decide) ?_
  refine va_put (ci := 6) (v := .int (0 : Int32)) (ty := .int) (C := RX6) (T := TX6) (N := 14) hx hb hts hi6 tyX6 tyX6_ok nmX6 hown hK hP hD hS 0 rfl rfl 8 (by decide) lk42 (fun _ h9 => h9) rfl (by decide +kernel) rfl rfl (Nat.le_of_ble_eq_true rfl) dX6_runScript_2 (fun H locs hP hD hS => ?_)
  have hP : va_P K.1 vwCl (mw K h a (hput M 8 (0 : Int32))) H := hP
  have hD : va_D A (mw K h a (hput M 8 (0 : Int32))) := hD
  have jn30 : ∀  (H : Heap) (locs : List Loc) (ls : Array Slot), va_P K.1 vwCl (mw K h a (hput M 8 (0 : Int32))) H → va_D A (mw K h a (hput M 8 (0 : Int32))) → va_S A s9.heap H locs → lv_has ls 10 [(0, .ref h), (1, .int n), (2, .long x9)] → W p9 l e9 rm_X6_runScript s9 m9 av9 below9 meth9 c9 H locs 0 0 Q9 (F0 m9 30 ls [.long (lN (lmM n))]) := by
    intro H locs ls hP hD hS hl
    refine lv_lstore (lv' := [(4, .long (lN (lmM n))), (0, .ref h), (1, .int n), (2, .long x9)]) hx hb dX6_runScript_30 hl (by decide) rfl (fun ls hl => ?_)
    refine lv_iload_n hx hb dX6_runScript_32 rfl (lv_at hl 2 rfl) ?_
    refine lv_iconst (v := (1 : Int32)) hx hb dX6_runScript_33 (by decide) ?_
    refine lv_iconst (v := (3 : Int32)) hx hb dX6_runScript_34 (by decide) ?_
    have hPc := P_sub (ws' := []) hP [] rfl
    refine xr_S (As := [.int n, .int (1 : Int32), .int (3 : Int32)]) (rest := []) ⟨hx, hb, hml, hown, hts⟩ (c_X6_in l K n (1 : Int32) (3 : Int32)) (va_cwS 3 hts gX6_runScript_X6_in rfl rfl rfl (by decide +kernel) ⟨Nat.le_of_ble_eq_true rfl, Nat.le_of_ble_eq_true rfl⟩) hK hPc rfl hl.1 rfl (Nat.le_of_ble_eq_true rfl) (Nat.le_of_ble_eq_true rfl) (Nat.le_of_ble_eq_true rfl) dX6_runScript_35 ?_
    refine xb_if_eq (tgt := 54) hx hb dX6_runScript_38 (by decide) (fun c_38 => ?_) (fun c_38 => ?_)
    · skip
      refine lv_aload_n hx hb dX6_runScript_54 rfl (lv_at hl 1 rfl) ?_
      refine lv_iconst (v := (1 : Int32)) hx hb dX6_runScript_55 (by decide) ?_
      refine xw_Vi (As := [.int (1 : Int32)]) (rest := []) (wc := mw K h a (hput M 8 (0 : Int32))) (wr := (List.filterMap (fun i => (mw K h a (hput M 8 (0 : Int32)) : va_W)[i]?) ([] : List Nat))) ⟨hx, hb, hml, hown, hts⟩ (c_X6_fails l K h a (hput M 8 (0 : Int32)) (1 : Int32) H.size) (cwV 1 hts gX6_runScript_X6_fails rfl rfl rfl (by decide +kernel) ⟨Nat.le_of_ble_eq_true rfl, Nat.le_of_ble_eq_true rfl⟩) hK hP hD hS hA [0, 1, 2, 3, 4, 5, 6, 7, 8, 9] [] [0, 1, 2, 3, 4, 5, 6, 7, 8, 9] rfl rfl rfl (fun _u => mw K h a (hput M 8 (1 : Int32))) (fun _ => rfl) 0 6 rfl rfl rfl rfl hl.1 rfl (Nat.le_of_ble_eq_true rfl) (Nat.le_of_ble_eq_true rfl) (Nat.le_of_ble_eq_true rfl) dX6_runScript_56 (fun r56 _ H locs hq56 hP hD hS => ?_)
      have hP : va_P K.1 vwCl (mw K h a (hput M 8 (1 : Int32))) H := hP
      have hD : va_D A (mw K h a (hput M 8 (1 : Int32))) := hD
      subst hq56
      have eR1 : (1 : Int32) = nI (kRunM n x9) := by first | exact (congrArg nI (show kRunM n x9 = 0 from lm_run c_38 hnn (lx_lt nc_50g nc_50e))).symm | exact (congrArg nI (show kRunM n x9 = 1 from if_neg (fun y => by first | exact c_38 y.1 | exact y.2.1 (lx_neg nc_43g nc_43e) | exact lx_ge (Or.inl c_50g) y.2.2 | exact lx_ge (Or.inr c_50e) y.2.2))).symm
      have hP : va_P K.1 vwCl (mw K h a (hput M 8 (nI (kRunM n x9)))) H := by rw [← eR1]; exact hP
      have hD : va_D A (mw K h a (hput M 8 (nI (kRunM n x9)))) := by rw [← eR1]; exact hD
      exact hend _ _ _ _ _ _ _ (M 1, M 9, M 10) hP hD hS (Nat.le_of_ble_eq_true rfl) (Nat.le_of_ble_eq_true rfl) (by exact fun z => absurd z (by rw [show kRunM n x9 = 1 from if_neg (fun y => by first | exact c_38 y.1 | exact y.2.1 (lx_neg nc_43g nc_43e) | exact lx_ge (Or.inl c_50g) y.2.2 | exact lx_ge (Or.inr c_50e) y.2.2)]; decide)) dX6_runScript_59
    · skip
      have hn2 := rng_cN (lo := 1) (hi := 3) c_38 (by decide)
      refine lv_lload_n hx hb dX6_runScript_41 rfl (lv_at hl 3 rfl) ?_
      refine lv_lconst (v := (0 : Int64)) hx hb dX6_runScript_42 (by decide) ?_
      refine xl_cmp hx hb dX6_runScript_43 (fun c_43g => ?_) (fun c_43e => ?_) (fun nc_43g nc_43e => ?_)
      · skip
        have hnn := lx_nn (x := x9) (by first | exact Or.inl c_43g | exact Or.inr c_43e)
        have hx9 := sN_e hnn
        refine lv_if_lt (tgt := 54) hx hb dX6_runScript_44 (by decide) (fun c_44 => ?_) (fun c_44 => ?_)
        · exact absurd c_44 (by decide)
        refine lv_lload_n hx hb dX6_runScript_47 rfl (lv_at hl 3 rfl) ?_
        refine lv_lload hx hb dX6_runScript_48 (lv_at hl 0 rfl) ?_
        refine xl_cmp hx hb dX6_runScript_50 (fun c_50g => ?_) (fun c_50e => ?_) (fun nc_50g nc_50e => ?_)
        · skip
          refine lv_if_lt (tgt := 60) hx hb dX6_runScript_51 (by decide) (fun c_51 => ?_) (fun c_51 => ?_)
          · exact absurd c_51 (by decide)
          refine lv_aload_n hx hb dX6_runScript_54 rfl (lv_at hl 1 rfl) ?_
          refine lv_iconst (v := (1 : Int32)) hx hb dX6_runScript_55 (by decide) ?_
          refine xw_Vi (As := [.int (1 : Int32)]) (rest := []) (wc := mw K h a (hput M 8 (0 : Int32))) (wr := (List.filterMap (fun i => (mw K h a (hput M 8 (0 : Int32)) : va_W)[i]?) ([] : List Nat))) ⟨hx, hb, hml, hown, hts⟩ (c_X6_fails l K h a (hput M 8 (0 : Int32)) (1 : Int32) H.size) (cwV 1 hts gX6_runScript_X6_fails rfl rfl rfl (by decide +kernel) ⟨Nat.le_of_ble_eq_true rfl, Nat.le_of_ble_eq_true rfl⟩) hK hP hD hS hA [0, 1, 2, 3, 4, 5, 6, 7, 8, 9] [] [0, 1, 2, 3, 4, 5, 6, 7, 8, 9] rfl rfl rfl (fun _u => mw K h a (hput M 8 (1 : Int32))) (fun _ => rfl) 0 6 rfl rfl rfl rfl hl.1 rfl (Nat.le_of_ble_eq_true rfl) (Nat.le_of_ble_eq_true rfl) (Nat.le_of_ble_eq_true rfl) dX6_runScript_56 (fun r56 _ H locs hq56 hP hD hS => ?_)
          have hP : va_P K.1 vwCl (mw K h a (hput M 8 (1 : Int32))) H := hP
          have hD : va_D A (mw K h a (hput M 8 (1 : Int32))) := hD
          subst hq56
          have eR3 : (1 : Int32) = nI (kRunM n x9) := by first | exact (congrArg nI (show kRunM n x9 = 0 from lm_run c_38 hnn (lx_lt nc_50g nc_50e))).symm | exact (congrArg nI (show kRunM n x9 = 1 from if_neg (fun y => by first | exact c_38 y.1 | exact y.2.1 (lx_neg nc_43g nc_43e) | exact lx_ge (Or.inl c_50g) y.2.2 | exact lx_ge (Or.inr c_50e) y.2.2))).symm
          have hP : va_P K.1 vwCl (mw K h a (hput M 8 (nI (kRunM n x9)))) H := by rw [← eR3]; exact hP
          have hD : va_D A (mw K h a (hput M 8 (nI (kRunM n x9)))) := by rw [← eR3]; exact hD
          exact hend _ _ _ _ _ _ _ (M 1, M 9, M 10) hP hD hS (Nat.le_of_ble_eq_true rfl) (Nat.le_of_ble_eq_true rfl) (by exact fun z => absurd z (by rw [show kRunM n x9 = 1 from if_neg (fun y => by first | exact c_38 y.1 | exact y.2.1 (lx_neg nc_43g nc_43e) | exact lx_ge (Or.inl c_50g) y.2.2 | exact lx_ge (Or.inr c_50e) y.2.2)]; decide)) dX6_runScript_59
        · skip
          refine lv_if_lt (tgt := 60) hx hb dX6_runScript_51 (by decide) (fun c_51 => ?_) (fun c_51 => ?_)
          · exact absurd c_51 (by decide)
          refine lv_aload_n hx hb dX6_runScript_54 rfl (lv_at hl 1 rfl) ?_
          refine lv_iconst (v := (1 : Int32)) hx hb dX6_runScript_55 (by decide) ?_
          refine xw_Vi (As := [.int (1 : Int32)]) (rest := []) (wc := mw K h a (hput M 8 (0 : Int32))) (wr := (List.filterMap (fun i => (mw K h a (hput M 8 (0 : Int32)) : va_W)[i]?) ([] : List Nat))) ⟨hx, hb, hml, hown, hts⟩ (c_X6_fails l K h a (hput M 8 (0 : Int32)) (1 : Int32) H.size) (cwV 1 hts gX6_runScript_X6_fails rfl rfl rfl (by decide +kernel) ⟨Nat.le_of_ble_eq_true rfl, Nat.le_of_ble_eq_true rfl⟩) hK hP hD hS hA [0, 1, 2, 3, 4, 5, 6, 7, 8, 9] [] [0, 1, 2, 3, 4, 5, 6, 7, 8, 9] rfl rfl rfl (fun _u => mw K h a (hput M 8 (1 : Int32))) (fun _ => rfl) 0 6 rfl rfl rfl rfl hl.1 rfl (Nat.le_of_ble_eq_true rfl) (Nat.le_of_ble_eq_true rfl) (Nat.le_of_ble_eq_true rfl) dX6_runScript_56 (fun r56 _ H locs hq56 hP hD hS => ?_)
          have hP : va_P K.1 vwCl (mw K h a (hput M 8 (1 : Int32))) H := hP
          have hD : va_D A (mw K h a (hput M 8 (1 : Int32))) := hD
          subst hq56
          have eR4 : (1 : Int32) = nI (kRunM n x9) := by first | exact (congrArg nI (show kRunM n x9 = 0 from lm_run c_38 hnn (lx_lt nc_50g nc_50e))).symm | exact (congrArg nI (show kRunM n x9 = 1 from if_neg (fun y => by first | exact c_38 y.1 | exact y.2.1 (lx_neg nc_43g nc_43e) | exact lx_ge (Or.inl c_50g) y.2.2 | exact lx_ge (Or.inr c_50e) y.2.2))).symm
          have hP : va_P K.1 vwCl (mw K h a (hput M 8 (nI (kRunM n x9)))) H := by rw [← eR4]; exact hP
          have hD : va_D A (mw K h a (hput M 8 (nI (kRunM n x9)))) := by rw [← eR4]; exact hD
          exact hend _ _ _ _ _ _ _ (M 1, M 9, M 10) hP hD hS (Nat.le_of_ble_eq_true rfl) (Nat.le_of_ble_eq_true rfl) (by exact fun z => absurd z (by rw [show kRunM n x9 = 1 from if_neg (fun y => by first | exact c_38 y.1 | exact y.2.1 (lx_neg nc_43g nc_43e) | exact lx_ge (Or.inl c_50g) y.2.2 | exact lx_ge (Or.inr c_50e) y.2.2)]; decide)) dX6_runScript_59
        · skip
          refine lv_if_lt (tgt := 60) hx hb dX6_runScript_51 (by decide) (fun c_51 => ?_) (fun c_51 => ?_)
          rotate_left
          · exact absurd (by decide) c_51
          refine lv_aload_n hx hb dX6_runScript_60 rfl (lv_at hl 1 rfl) ?_
          refine xw_Vv (As := []) (rest := []) (wc := mw K h a (hput M 8 (0 : Int32))) (wr := (List.filterMap (fun i => (mw K h a (hput M 8 (0 : Int32)) : va_W)[i]?) ([] : List Nat))) ⟨hx, hb, hml, hown, hts⟩ (c_X6_tries l K h a (hput M 8 (0 : Int32)) H.size) (cwV 0 hts gX6_runScript_X6_tries rfl rfl rfl (by decide +kernel) ⟨Nat.le_of_ble_eq_true rfl, Nat.le_of_ble_eq_true rfl⟩) hK hP hD hS hA [0, 1, 2, 3, 4, 5, 6, 7, 8, 9] [] [0, 1, 2, 3, 4, 5, 6, 7, 8, 9] rfl rfl rfl (fun _u => mw K h a (hput (hrow M 1 (M 0)) 8 (0 : Int32))) (fun _ => rfl) 0 6 rfl rfl rfl rfl hl.1 rfl (Nat.le_of_ble_eq_true rfl) (Nat.le_of_ble_eq_true rfl) (Nat.le_of_ble_eq_true rfl) dX6_runScript_61 (fun _ H locs hq61 hP hD hS => ?_)
          have hP : va_P K.1 vwCl (mw K h a (hput (hrow M 1 (M 0)) 8 (0 : Int32))) H := hP
          have hD : va_D A (mw K h a (hput (hrow M 1 (M 0)) 8 (0 : Int32))) := hD
          refine lv_iconst (v := (0 : Int32)) hx hb dX6_runScript_64 (by decide) ?_
          refine lv_istore (lv' := [(6, .int (0 : Int32)), (4, .long (lN (lmM n))), (0, .ref h), (1, .int n), (2, .long x9)]) hx hb dX6_runScript_65 hl (by decide) rfl (fun ls hl => ?_)
          have lp67 : ∀ (n9 : Nat) (k : Nat) (E : Nat → Int32) (F : Nat → Int32) (H : Heap) (locs : List Loc) (ls : Array Slot), cN n - k < n9 → (k ≤ cN n) → (fstF (mfF (M 0) R P (cN n) (sN x9)) 0 (cN n) = fstF (mfF (M 0) R P (cN n) (sN x9)) k (cN n - k)) → va_P K.1 vwCl (mw K h a (hrow (hrow (hput (hrow M 1 (mfS (M 0) R P (cN n) (sN x9) k)) 8 (0 : Int32)) 9 E) 10 F)) H → va_D A (mw K h a (hrow (hrow (hput (hrow M 1 (mfS (M 0) R P (cN n) (sN x9) k)) 8 (0 : Int32)) 9 E) 10 F)) → va_S A s9.heap H locs → lv_has ls 10 [(0, .ref h), (1, .int n), (2, .long x9), (6, .int (nI k))] → W p9 l e9 rm_X6_runScript s9 m9 av9 below9 meth9 c9 H locs 0 0 Q9 (F0 m9 67 ls []) := by
            intro n9
            induction n9 with
            | zero => intro k E F H locs ls hmu hk hF hP hD hS hl; exact absurd hmu (Nat.not_lt_zero _)
            | succ n9 ih67 =>
              intro k E F H locs ls hmu hk hF hP hD hS hl
              refine lv_iload hx hb dX6_runScript_67 (lv_at hl 3 rfl) ?_
              refine lv_iload_n hx hb dX6_runScript_69 rfl (lv_at hl 1 rfl) ?_
              refine xn_icmp_ge (tgt := 125) hx hb k (cN n) rfl hn2.1 (by omega) (by omega) dX6_runScript_70 (by decide) (fun c_70 => ?_) (fun c_70 => ?_)
              · skip
                refine lv_iconst (v := (-1 : Int32)) hx hb dX6_runScript_125 (by decide) ?_
                have eR5 : (0 : Int32) = nI (kRunM n x9) := by first | exact (congrArg nI (show kRunM n x9 = 0 from lm_run c_38 hnn (lx_lt nc_50g nc_50e))).symm | exact (congrArg nI (show kRunM n x9 = 1 from if_neg (fun y => by first | exact c_38 y.1 | exact y.2.1 (lx_neg nc_43g nc_43e) | exact lx_ge (Or.inl c_50g) y.2.2 | exact lx_ge (Or.inr c_50e) y.2.2))).symm
                have hP : va_P K.1 vwCl (mw K h a (hrow (hrow (hput (hrow M 1 (mfS (M 0) R P (cN n) (sN x9) k)) 8 (nI (kRunM n x9))) 9 E) 10 F)) H := by rw [← eR5]; exact hP
                have hD : va_D A (mw K h a (hrow (hrow (hput (hrow M 1 (mfS (M 0) R P (cN n) (sN x9) k)) 8 (nI (kRunM n x9))) 9 E) 10 F)) := by rw [← eR5]; exact hD
                exact hend _ _ _ _ _ _ _ (mfS (M 0) R P (cN n) (sN x9) k, E, F) hP hD hS (Nat.le_of_ble_eq_true rfl) (Nat.le_of_ble_eq_true rfl) (by (intro _; rw [hF]; exact (fstF_end (by omega)).symm)) dX6_runScript_126
              · skip
                refine lv_lload_n hx hb dX6_runScript_73 rfl (lv_at hl 2 rfl) ?_
                refine lv_lstore (lv' := [(7, .long x9), (0, .ref h), (1, .int n), (2, .long x9), (6, .int (nI k))]) hx hb dX6_runScript_74 hl (by decide) rfl (fun ls hl => ?_)
                refine lv_iload hx hb dX6_runScript_76 (lv_at hl 4 rfl) ?_
                refine lv_istore (lv' := [(9, .int (nI k)), (7, .long x9), (0, .ref h), (1, .int n), (2, .long x9), (6, .int (nI k))]) hx hb dX6_runScript_78 hl (by decide) rfl (fun ls hl => ?_)
                have lp80 : ∀ (n9 : Nat) (j : Nat) (H : Heap) (locs : List Loc) (ls : Array Slot), cN n - j < n9 → (j ≤ cN n - 1) → (k ≤ j) → va_P K.1 vwCl (mw K h a (hrow (hrow (hput (hrow M 1 (mfS (M 0) R P (cN n) (sN x9) k)) 8 (0 : Int32)) 9 E) 10 F)) H → va_D A (mw K h a (hrow (hrow (hput (hrow M 1 (mfS (M 0) R P (cN n) (sN x9) k)) 8 (0 : Int32)) 9 E) 10 F)) → va_S A s9.heap H locs → lv_has ls 10 [(0, .ref h), (1, .int n), (2, .long x9), (6, .int (nI k)), (7, .long (lN (sN x9 / 10000 ^ (j - k)))), (9, .int (nI j))] → W p9 l e9 rm_X6_runScript s9 m9 av9 below9 meth9 c9 H locs 0 0 Q9 (F0 m9 80 ls []) := by
                  intro n9
                  induction n9 with
                  | zero => intro j H locs ls hmu hj hkj hP hD hS hl; exact absurd hmu (Nat.not_lt_zero _)
                  | succ n9 ih80 =>
                    intro j H locs ls hmu hj hkj hP hD hS hl
                    have hlb : sN x9 / 10000 ^ (j - k) < 2 ^ 63 := Nat.lt_of_le_of_lt (Nat.div_le_self _ _) hx9.2
                    refine lv_iload hx hb dX6_runScript_80 (lv_at hl 5 rfl) ?_
                    refine lv_iload_n hx hb dX6_runScript_82 rfl (lv_at hl 1 rfl) ?_
                    refine lv_iconst (v := (1 : Int32)) hx hb dX6_runScript_83 (by decide) ?_
                    refine lv_isub hx hb dX6_runScript_84 ?_
                    refine xn_icmp_ge (tgt := 102) hx hb j ((cN n) - 1) rfl (nn_sub hn2.1 rfl (by omega)) (by omega) (by omega) dX6_runScript_85 (by decide) (fun c_85 => ?_) (fun c_85 => ?_)
                    · skip
                      have hj9 : (cN n - 1) = j := (show j = (cN n - 1) from by omega).symm
                      subst hj9
                      refine lv_aload_n hx hb dX6_runScript_102 rfl (lv_at hl 0 rfl) ?_
                      refine lv_lload hx hb dX6_runScript_103 (lv_at hl 4 rfl) ?_
                      refine lv_ldc2 (v := (10000 : Int64)) hx hb hown (hts (.constantLong RX6 169 (10000)) (by decide +kernel)) dX6_runScript_105 ?_
                      refine lv_lrem hx hb dX6_runScript_108 (by decide) ?_
                      have e6 : (lN (sN x9 / 10000 ^ ((cN n - 1) - k))) - (lN (sN x9 / 10000 ^ ((cN n - 1) - k))) / (10000 : Int64) * (10000 : Int64) = lN ((sN x9 / 10000 ^ ((cN n - 1) - k)) % 10000) := lN_rem (by exact hlb) (by decide) (by decide)
                      rw [e6]
                      refine lv_l2i (v := nI ((sN x9 / 10000 ^ ((cN n - 1) - k)) % 10000)) hx hb dX6_runScript_109 (lN_i _) ?_
                      refine xw_Vi (As := [.int (nI ((sN x9 / 10000 ^ ((cN n - 1) - k)) % 10000))]) (rest := []) (wc := mw K h a (hrow (hrow (hput (hrow M 1 (mfS (M 0) R P (cN n) (sN x9) k)) 8 (0 : Int32)) 9 E) 10 F)) (wr := (List.filterMap (fun i => (mw K h a (hrow (hrow (hput (hrow M 1 (mfS (M 0) R P (cN n) (sN x9) k)) 8 (0 : Int32)) 9 E) 10 F) : va_W)[i]?) ([] : List Nat))) ⟨hx, hb, hml, hown, hts⟩ (c_X6_succeeds l K h a (hrow (hrow (hput (hrow M 1 (mfS (M 0) R P (cN n) (sN x9) k)) 8 (0 : Int32)) 9 E) 10 F) ((sN x9 / 10000 ^ ((cN n - 1) - k)) % 10000) (by omega) R (km_mf (by decide) hR0) (by omega) P (km_mf (by decide) hP0) (by omega) (hmo k (by omega)) H.size) (cwV 1 hts gX6_runScript_X6_succeeds rfl rfl rfl (by decide +kernel) ⟨Nat.le_of_ble_eq_true rfl, Nat.le_of_ble_eq_true rfl⟩) hK hP hD hS hA [0, 1, 2, 3, 4, 5, 6, 7, 8, 9] [] [0, 1, 2, 3, 4, 5, 6, 7, 8, 9] rfl rfl rfl (fun D110 => mw K h a (hrow (hrow (hput (hrow M 1 (msS ((mfS (M 0) R P (cN n) (sN x9) k)) R P ((sN x9 / 10000 ^ ((cN n - 1) - k)) % 10000))) 8 (0 : Int32)) 9 D110.1) 10 D110.2)) (fun _ => rfl) 0 6 rfl rfl rfl rfl hl.1 rfl (Nat.le_of_ble_eq_true rfl) (Nat.le_of_ble_eq_true rfl) (Nat.le_of_ble_eq_true rfl) dX6_runScript_110 (fun r110 D110 H locs hq110 hP hD hS => ?_)
                      have hP : va_P K.1 vwCl (mw K h a (hrow (hrow (hput (hrow M 1 (msS ((mfS (M 0) R P (cN n) (sN x9) k)) R P ((sN x9 / 10000 ^ ((cN n - 1) - k)) % 10000))) 8 (0 : Int32)) 9 D110.1) 10 D110.2)) H := hP
                      have hD : va_D A (mw K h a (hrow (hrow (hput (hrow M 1 (msS ((mfS (M 0) R P (cN n) (sN x9) k)) R P ((sN x9 / 10000 ^ ((cN n - 1) - k)) % 10000))) 8 (0 : Int32)) 9 D110.1) 10 D110.2)) := hD
                      have hq110 : r110 = bI (msB ((mfS (M 0) R P (cN n) (sN x9) k)) R P ((sN x9 / 10000 ^ ((cN n - 1) - k)) % 10000) = true) := hq110
                      subst hq110
                      refine xb_if_ne (tgt := 119) hx hb dX6_runScript_113 (by decide) (fun c_113 => ?_) (fun c_113 => ?_)
                      · skip
                        refine lv_iinc (v := nI (k + 1)) (lv' := [(6, .int (nI (k + 1))), (0, .ref h), (1, .int n), (2, .long x9), (7, .long (lN (sN x9 / 10000 ^ ((cN n - 1) - k)))), (9, .int (nI (cN n - 1)))]) hx hb dX6_runScript_119 hl (k := 3) rfl (nI_1 _) (by decide) rfl (fun ls hl => ?_)
                        refine lv_goto (tgt := 67) hx hb dX6_runScript_122 (by decide) ?_
                        have eR7 : (msS ((mfS (M 0) R P (cN n) (sN x9) k)) R P ((sN x9 / 10000 ^ ((cN n - 1) - k)) % 10000)) = mfS (M 0) R P (cN n) (sN x9) (k + 1) := by rfl
                        rw [eR7] at hP hD
                        have hP : va_P K.1 vwCl (mw K h a (hrow (hrow (hput (hrow M 1 (mfS (M 0) R P (cN n) (sN x9) (k + 1))) 8 (0 : Int32)) 9 D110.1) 10 D110.2)) H := hP
                        have hD : va_D A (mw K h a (hrow (hrow (hput (hrow M 1 (mfS (M 0) R P (cN n) (sN x9) (k + 1))) 8 (0 : Int32)) 9 D110.1) 10 D110.2)) := hD
                        exact ih67 (k + 1) D110.1 D110.2 _ _ _ (by omega) (by first | omega | assumption | first | rfl | (simp [c_38, c_43g, nc_50g, nc_50e, c_70, c_85, c_113]; done) | omega) (by rw [hF]; exact fstF_step (by omega) (by simp only [mfF, c_113]; decide)) hP hD hS (lv_cons (lv_at hl 1 rfl) (lv_cons (lv_at hl 2 rfl) (lv_cons (lv_at hl 3 rfl) (lv_cons (lv_at hl 0 rfl) (lv_nil hl)))))
                      · skip
                        refine lv_iload hx hb dX6_runScript_116 (lv_at hl 3 rfl) ?_
                        have eR8 : (0 : Int32) = nI (kRunM n x9) := by first | exact (congrArg nI (show kRunM n x9 = 0 from lm_run c_38 hnn (lx_lt nc_50g nc_50e))).symm | exact (congrArg nI (show kRunM n x9 = 1 from if_neg (fun y => by first | exact c_38 y.1 | exact y.2.1 (lx_neg nc_43g nc_43e) | exact lx_ge (Or.inl c_50g) y.2.2 | exact lx_ge (Or.inr c_50e) y.2.2))).symm
                        have hP : va_P K.1 vwCl (mw K h a (hrow (hrow (hput (hrow M 1 (msS ((mfS (M 0) R P (cN n) (sN x9) k)) R P ((sN x9 / 10000 ^ ((cN n - 1) - k)) % 10000))) 8 (nI (kRunM n x9))) 9 D110.1) 10 D110.2)) H := by rw [← eR8]; exact hP
                        have hD : va_D A (mw K h a (hrow (hrow (hput (hrow M 1 (msS ((mfS (M 0) R P (cN n) (sN x9) k)) R P ((sN x9 / 10000 ^ ((cN n - 1) - k)) % 10000))) 8 (nI (kRunM n x9))) 9 D110.1) 10 D110.2)) := by rw [← eR8]; exact hD
                        exact hend _ _ _ _ _ _ _ (msS ((mfS (M 0) R P (cN n) (sN x9) k)) R P ((sN x9 / 10000 ^ ((cN n - 1) - k)) % 10000), D110.1, D110.2) hP hD hS (Nat.le_of_ble_eq_true rfl) (Nat.le_of_ble_eq_true rfl) (by (intro _; rw [hF]; exact (fstF_hit (by omega) (by simp only [mfF]; simpa using c_113)).symm)) dX6_runScript_118
                    · skip
                      refine lv_lload hx hb dX6_runScript_88 (lv_at hl 4 rfl) ?_
                      refine lv_ldc2 (v := (10000 : Int64)) hx hb hown (hts (.constantLong RX6 169 (10000)) (by decide +kernel)) dX6_runScript_90 ?_
                      refine lv_ldiv hx hb dX6_runScript_93 (by decide) ?_
                      have e9 : (lN (sN x9 / 10000 ^ (j - k))) / (10000 : Int64) = lN ((sN x9 / 10000 ^ (j - k)) / 10000) := lN_div (by exact hlb) (by decide) (by decide)
                      rw [e9]
                      refine lv_lstore (lv' := [(7, .long (lN ((sN x9 / 10000 ^ (j - k)) / 10000))), (0, .ref h), (1, .int n), (2, .long x9), (6, .int (nI k)), (9, .int (nI j))]) hx hb dX6_runScript_94 hl (by decide) rfl (fun ls hl => ?_)
                      refine lv_iinc (v := nI (j + 1)) (lv' := [(9, .int (nI (j + 1))), (7, .long (lN ((sN x9 / 10000 ^ (j - k)) / 10000))), (0, .ref h), (1, .int n), (2, .long x9), (6, .int (nI k))]) hx hb dX6_runScript_96 hl (k := 5) rfl (nI_1 _) (by decide) rfl (fun ls hl => ?_)
                      refine lv_goto (tgt := 80) hx hb dX6_runScript_99 (by decide) ?_
                      exact ih80 (j + 1) _ _ _ (by omega) (by first | omega | assumption | first | rfl | (simp [c_38, c_43g, nc_50g, nc_50e, c_70, c_85]; done) | omega) (by first | omega | assumption | first | rfl | (simp [c_38, c_43g, nc_50g, nc_50e, c_70, c_85]; done) | omega) hP hD hS (lv_cons (lv_at hl 2 rfl) (lv_cons (lv_at hl 3 rfl) (lv_cons (lv_at hl 4 rfl) (lv_cons (lv_at hl 5 rfl) (lv_cons (lv_isL (lv_at hl 1 rfl) (show lN ((sN x9 / 10000 ^ (j - k)) / 10000) = lN (sN x9 / 10000 ^ ((j + 1) - k)) by rw [Nat.div_div_eq_div_mul, ← Nat.pow_succ, show j + 1 - k = j - k + 1 by omega])) (lv_cons (lv_at hl 0 rfl) (lv_nil hl)))))))
                exact lp80 _ k _ _ _ (Nat.lt_succ_self _) (by first | omega | assumption | first | rfl | (simp [c_38, c_43g, nc_50g, nc_50e, c_70]; done) | omega) (by first | omega | assumption | first | rfl | (simp [c_38, c_43g, nc_50g, nc_50e, c_70]; done) | omega) hP hD hS (lv_cons (lv_at hl 2 rfl) (lv_cons (lv_at hl 3 rfl) (lv_cons (lv_at hl 4 rfl) (lv_cons (lv_at hl 5 rfl) (lv_cons (lv_isL (lv_at hl 1 rfl) (show x9 = lN (sN x9 / 10000 ^ (k - k)) by (rw [Nat.sub_self, Nat.pow_zero, Nat.div_one]; exact hx9.1))) (lv_cons (lv_at hl 0 rfl) (lv_nil hl)))))))
          have eR10 : (M 0) = mfS (M 0) R P (cN n) (sN x9) 0 := by rfl
          have hP : va_P K.1 vwCl (mw K h a (hput (hrow M 1 (mfS (M 0) R P (cN n) (sN x9) 0)) 8 (0 : Int32))) H := by rw [← eR10]; exact hP
          have hD : va_D A (mw K h a (hput (hrow M 1 (mfS (M 0) R P (cN n) (sN x9) 0)) 8 (0 : Int32))) := by rw [← eR10]; exact hD
          have hP : va_P K.1 vwCl (mw K h a (hrow (hrow (hput (hrow M 1 (mfS (M 0) R P (cN n) (sN x9) 0)) 8 (0 : Int32)) 9 (M 9)) 10 (M 10))) H := hP
          have hD : va_D A (mw K h a (hrow (hrow (hput (hrow M 1 (mfS (M 0) R P (cN n) (sN x9) 0)) 8 (0 : Int32)) 9 (M 9)) 10 (M 10))) := hD
          exact lp67 _ 0 (M 9) (M 10) _ _ _ (Nat.lt_succ_self _) (by first | omega | assumption | first | rfl | (simp [c_38, c_43g, nc_50g, nc_50e]; done) | omega) (by rfl) hP hD hS (lv_cons (lv_at hl 2 rfl) (lv_cons (lv_at hl 3 rfl) (lv_cons (lv_at hl 4 rfl) (lv_cons (lv_is (lv_at hl 0 rfl) (show (0 : Int32) = nI 0 by rfl)) (lv_nil hl)))))
      · skip
        have hnn := lx_nn (x := x9) (by first | exact Or.inl c_43g | exact Or.inr c_43e)
        have hx9 := sN_e hnn
        refine lv_if_lt (tgt := 54) hx hb dX6_runScript_44 (by decide) (fun c_44 => ?_) (fun c_44 => ?_)
        · exact absurd c_44 (by decide)
        refine lv_lload_n hx hb dX6_runScript_47 rfl (lv_at hl 3 rfl) ?_
        refine lv_lload hx hb dX6_runScript_48 (lv_at hl 0 rfl) ?_
        refine xl_cmp hx hb dX6_runScript_50 (fun c_50g => ?_) (fun c_50e => ?_) (fun nc_50g nc_50e => ?_)
        · skip
          refine lv_if_lt (tgt := 60) hx hb dX6_runScript_51 (by decide) (fun c_51 => ?_) (fun c_51 => ?_)
          · exact absurd c_51 (by decide)
          refine lv_aload_n hx hb dX6_runScript_54 rfl (lv_at hl 1 rfl) ?_
          refine lv_iconst (v := (1 : Int32)) hx hb dX6_runScript_55 (by decide) ?_
          refine xw_Vi (As := [.int (1 : Int32)]) (rest := []) (wc := mw K h a (hput M 8 (0 : Int32))) (wr := (List.filterMap (fun i => (mw K h a (hput M 8 (0 : Int32)) : va_W)[i]?) ([] : List Nat))) ⟨hx, hb, hml, hown, hts⟩ (c_X6_fails l K h a (hput M 8 (0 : Int32)) (1 : Int32) H.size) (cwV 1 hts gX6_runScript_X6_fails rfl rfl rfl (by decide +kernel) ⟨Nat.le_of_ble_eq_true rfl, Nat.le_of_ble_eq_true rfl⟩) hK hP hD hS hA [0, 1, 2, 3, 4, 5, 6, 7, 8, 9] [] [0, 1, 2, 3, 4, 5, 6, 7, 8, 9] rfl rfl rfl (fun _u => mw K h a (hput M 8 (1 : Int32))) (fun _ => rfl) 0 6 rfl rfl rfl rfl hl.1 rfl (Nat.le_of_ble_eq_true rfl) (Nat.le_of_ble_eq_true rfl) (Nat.le_of_ble_eq_true rfl) dX6_runScript_56 (fun r56 _ H locs hq56 hP hD hS => ?_)
          have hP : va_P K.1 vwCl (mw K h a (hput M 8 (1 : Int32))) H := hP
          have hD : va_D A (mw K h a (hput M 8 (1 : Int32))) := hD
          subst hq56
          have eR11 : (1 : Int32) = nI (kRunM n x9) := by first | exact (congrArg nI (show kRunM n x9 = 0 from lm_run c_38 hnn (lx_lt nc_50g nc_50e))).symm | exact (congrArg nI (show kRunM n x9 = 1 from if_neg (fun y => by first | exact c_38 y.1 | exact y.2.1 (lx_neg nc_43g nc_43e) | exact lx_ge (Or.inl c_50g) y.2.2 | exact lx_ge (Or.inr c_50e) y.2.2))).symm
          have hP : va_P K.1 vwCl (mw K h a (hput M 8 (nI (kRunM n x9)))) H := by rw [← eR11]; exact hP
          have hD : va_D A (mw K h a (hput M 8 (nI (kRunM n x9)))) := by rw [← eR11]; exact hD
          exact hend _ _ _ _ _ _ _ (M 1, M 9, M 10) hP hD hS (Nat.le_of_ble_eq_true rfl) (Nat.le_of_ble_eq_true rfl) (by exact fun z => absurd z (by rw [show kRunM n x9 = 1 from if_neg (fun y => by first | exact c_38 y.1 | exact y.2.1 (lx_neg nc_43g nc_43e) | exact lx_ge (Or.inl c_50g) y.2.2 | exact lx_ge (Or.inr c_50e) y.2.2)]; decide)) dX6_runScript_59
        · skip
          refine lv_if_lt (tgt := 60) hx hb dX6_runScript_51 (by decide) (fun c_51 => ?_) (fun c_51 => ?_)
          · exact absurd c_51 (by decide)
          refine lv_aload_n hx hb dX6_runScript_54 rfl (lv_at hl 1 rfl) ?_
          refine lv_iconst (v := (1 : Int32)) hx hb dX6_runScript_55 (by decide) ?_
          refine xw_Vi (As := [.int (1 : Int32)]) (rest := []) (wc := mw K h a (hput M 8 (0 : Int32))) (wr := (List.filterMap (fun i => (mw K h a (hput M 8 (0 : Int32)) : va_W)[i]?) ([] : List Nat))) ⟨hx, hb, hml, hown, hts⟩ (c_X6_fails l K h a (hput M 8 (0 : Int32)) (1 : Int32) H.size) (cwV 1 hts gX6_runScript_X6_fails rfl rfl rfl (by decide +kernel) ⟨Nat.le_of_ble_eq_true rfl, Nat.le_of_ble_eq_true rfl⟩) hK hP hD hS hA [0, 1, 2, 3, 4, 5, 6, 7, 8, 9] [] [0, 1, 2, 3, 4, 5, 6, 7, 8, 9] rfl rfl rfl (fun _u => mw K h a (hput M 8 (1 : Int32))) (fun _ => rfl) 0 6 rfl rfl rfl rfl hl.1 rfl (Nat.le_of_ble_eq_true rfl) (Nat.le_of_ble_eq_true rfl) (Nat.le_of_ble_eq_true rfl) dX6_runScript_56 (fun r56 _ H locs hq56 hP hD hS => ?_)
          have hP : va_P K.1 vwCl (mw K h a (hput M 8 (1 : Int32))) H := hP
          have hD : va_D A (mw K h a (hput M 8 (1 : Int32))) := hD
          subst hq56
          have eR12 : (1 : Int32) = nI (kRunM n x9) := by first | exact (congrArg nI (show kRunM n x9 = 0 from lm_run c_38 hnn (lx_lt nc_50g nc_50e))).symm | exact (congrArg nI (show kRunM n x9 = 1 from if_neg (fun y => by first | exact c_38 y.1 | exact y.2.1 (lx_neg nc_43g nc_43e) | exact lx_ge (Or.inl c_50g) y.2.2 | exact lx_ge (Or.inr c_50e) y.2.2))).symm
          have hP : va_P K.1 vwCl (mw K h a (hput M 8 (nI (kRunM n x9)))) H := by rw [← eR12]; exact hP
          have hD : va_D A (mw K h a (hput M 8 (nI (kRunM n x9)))) := by rw [← eR12]; exact hD
          exact hend _ _ _ _ _ _ _ (M 1, M 9, M 10) hP hD hS (Nat.le_of_ble_eq_true rfl) (Nat.le_of_ble_eq_true rfl) (by exact fun z => absurd z (by rw [show kRunM n x9 = 1 from if_neg (fun y => by first | exact c_38 y.1 | exact y.2.1 (lx_neg nc_43g nc_43e) | exact lx_ge (Or.inl c_50g) y.2.2 | exact lx_ge (Or.inr c_50e) y.2.2)]; decide)) dX6_runScript_59
        · skip
          refine lv_if_lt (tgt := 60) hx hb dX6_runScript_51 (by decide) (fun c_51 => ?_) (fun c_51 => ?_)
          rotate_left
          · exact absurd (by decide) c_51
          refine lv_aload_n hx hb dX6_runScript_60 rfl (lv_at hl 1 rfl) ?_
          refine xw_Vv (As := []) (rest := []) (wc := mw K h a (hput M 8 (0 : Int32))) (wr := (List.filterMap (fun i => (mw K h a (hput M 8 (0 : Int32)) : va_W)[i]?) ([] : List Nat))) ⟨hx, hb, hml, hown, hts⟩ (c_X6_tries l K h a (hput M 8 (0 : Int32)) H.size) (cwV 0 hts gX6_runScript_X6_tries rfl rfl rfl (by decide +kernel) ⟨Nat.le_of_ble_eq_true rfl, Nat.le_of_ble_eq_true rfl⟩) hK hP hD hS hA [0, 1, 2, 3, 4, 5, 6, 7, 8, 9] [] [0, 1, 2, 3, 4, 5, 6, 7, 8, 9] rfl rfl rfl (fun _u => mw K h a (hput (hrow M 1 (M 0)) 8 (0 : Int32))) (fun _ => rfl) 0 6 rfl rfl rfl rfl hl.1 rfl (Nat.le_of_ble_eq_true rfl) (Nat.le_of_ble_eq_true rfl) (Nat.le_of_ble_eq_true rfl) dX6_runScript_61 (fun _ H locs hq61 hP hD hS => ?_)
          have hP : va_P K.1 vwCl (mw K h a (hput (hrow M 1 (M 0)) 8 (0 : Int32))) H := hP
          have hD : va_D A (mw K h a (hput (hrow M 1 (M 0)) 8 (0 : Int32))) := hD
          refine lv_iconst (v := (0 : Int32)) hx hb dX6_runScript_64 (by decide) ?_
          refine lv_istore (lv' := [(6, .int (0 : Int32)), (4, .long (lN (lmM n))), (0, .ref h), (1, .int n), (2, .long x9)]) hx hb dX6_runScript_65 hl (by decide) rfl (fun ls hl => ?_)
          have lp67 : ∀ (n9 : Nat) (k : Nat) (E : Nat → Int32) (F : Nat → Int32) (H : Heap) (locs : List Loc) (ls : Array Slot), cN n - k < n9 → (k ≤ cN n) → (fstF (mfF (M 0) R P (cN n) (sN x9)) 0 (cN n) = fstF (mfF (M 0) R P (cN n) (sN x9)) k (cN n - k)) → va_P K.1 vwCl (mw K h a (hrow (hrow (hput (hrow M 1 (mfS (M 0) R P (cN n) (sN x9) k)) 8 (0 : Int32)) 9 E) 10 F)) H → va_D A (mw K h a (hrow (hrow (hput (hrow M 1 (mfS (M 0) R P (cN n) (sN x9) k)) 8 (0 : Int32)) 9 E) 10 F)) → va_S A s9.heap H locs → lv_has ls 10 [(0, .ref h), (1, .int n), (2, .long x9), (6, .int (nI k))] → W p9 l e9 rm_X6_runScript s9 m9 av9 below9 meth9 c9 H locs 0 0 Q9 (F0 m9 67 ls []) := by
            intro n9
            induction n9 with
            | zero => intro k E F H locs ls hmu hk hF hP hD hS hl; exact absurd hmu (Nat.not_lt_zero _)
            | succ n9 ih67 =>
              intro k E F H locs ls hmu hk hF hP hD hS hl
              refine lv_iload hx hb dX6_runScript_67 (lv_at hl 3 rfl) ?_
              refine lv_iload_n hx hb dX6_runScript_69 rfl (lv_at hl 1 rfl) ?_
              refine xn_icmp_ge (tgt := 125) hx hb k (cN n) rfl hn2.1 (by omega) (by omega) dX6_runScript_70 (by decide) (fun c_70 => ?_) (fun c_70 => ?_)
              · skip
                refine lv_iconst (v := (-1 : Int32)) hx hb dX6_runScript_125 (by decide) ?_
                have eR13 : (0 : Int32) = nI (kRunM n x9) := by first | exact (congrArg nI (show kRunM n x9 = 0 from lm_run c_38 hnn (lx_lt nc_50g nc_50e))).symm | exact (congrArg nI (show kRunM n x9 = 1 from if_neg (fun y => by first | exact c_38 y.1 | exact y.2.1 (lx_neg nc_43g nc_43e) | exact lx_ge (Or.inl c_50g) y.2.2 | exact lx_ge (Or.inr c_50e) y.2.2))).symm
                have hP : va_P K.1 vwCl (mw K h a (hrow (hrow (hput (hrow M 1 (mfS (M 0) R P (cN n) (sN x9) k)) 8 (nI (kRunM n x9))) 9 E) 10 F)) H := by rw [← eR13]; exact hP
                have hD : va_D A (mw K h a (hrow (hrow (hput (hrow M 1 (mfS (M 0) R P (cN n) (sN x9) k)) 8 (nI (kRunM n x9))) 9 E) 10 F)) := by rw [← eR13]; exact hD
                exact hend _ _ _ _ _ _ _ (mfS (M 0) R P (cN n) (sN x9) k, E, F) hP hD hS (Nat.le_of_ble_eq_true rfl) (Nat.le_of_ble_eq_true rfl) (by (intro _; rw [hF]; exact (fstF_end (by omega)).symm)) dX6_runScript_126
              · skip
                refine lv_lload_n hx hb dX6_runScript_73 rfl (lv_at hl 2 rfl) ?_
                refine lv_lstore (lv' := [(7, .long x9), (0, .ref h), (1, .int n), (2, .long x9), (6, .int (nI k))]) hx hb dX6_runScript_74 hl (by decide) rfl (fun ls hl => ?_)
                refine lv_iload hx hb dX6_runScript_76 (lv_at hl 4 rfl) ?_
                refine lv_istore (lv' := [(9, .int (nI k)), (7, .long x9), (0, .ref h), (1, .int n), (2, .long x9), (6, .int (nI k))]) hx hb dX6_runScript_78 hl (by decide) rfl (fun ls hl => ?_)
                have lp80 : ∀ (n9 : Nat) (j : Nat) (H : Heap) (locs : List Loc) (ls : Array Slot), cN n - j < n9 → (j ≤ cN n - 1) → (k ≤ j) → va_P K.1 vwCl (mw K h a (hrow (hrow (hput (hrow M 1 (mfS (M 0) R P (cN n) (sN x9) k)) 8 (0 : Int32)) 9 E) 10 F)) H → va_D A (mw K h a (hrow (hrow (hput (hrow M 1 (mfS (M 0) R P (cN n) (sN x9) k)) 8 (0 : Int32)) 9 E) 10 F)) → va_S A s9.heap H locs → lv_has ls 10 [(0, .ref h), (1, .int n), (2, .long x9), (6, .int (nI k)), (7, .long (lN (sN x9 / 10000 ^ (j - k)))), (9, .int (nI j))] → W p9 l e9 rm_X6_runScript s9 m9 av9 below9 meth9 c9 H locs 0 0 Q9 (F0 m9 80 ls []) := by
                  intro n9
                  induction n9 with
                  | zero => intro j H locs ls hmu hj hkj hP hD hS hl; exact absurd hmu (Nat.not_lt_zero _)
                  | succ n9 ih80 =>
                    intro j H locs ls hmu hj hkj hP hD hS hl
                    have hlb : sN x9 / 10000 ^ (j - k) < 2 ^ 63 := Nat.lt_of_le_of_lt (Nat.div_le_self _ _) hx9.2
                    refine lv_iload hx hb dX6_runScript_80 (lv_at hl 5 rfl) ?_
                    refine lv_iload_n hx hb dX6_runScript_82 rfl (lv_at hl 1 rfl) ?_
                    refine lv_iconst (v := (1 : Int32)) hx hb dX6_runScript_83 (by decide) ?_
                    refine lv_isub hx hb dX6_runScript_84 ?_
                    refine xn_icmp_ge (tgt := 102) hx hb j ((cN n) - 1) rfl (nn_sub hn2.1 rfl (by omega)) (by omega) (by omega) dX6_runScript_85 (by decide) (fun c_85 => ?_) (fun c_85 => ?_)
                    · skip
                      have hj9 : (cN n - 1) = j := (show j = (cN n - 1) from by omega).symm
                      subst hj9
                      refine lv_aload_n hx hb dX6_runScript_102 rfl (lv_at hl 0 rfl) ?_
                      refine lv_lload hx hb dX6_runScript_103 (lv_at hl 4 rfl) ?_
                      refine lv_ldc2 (v := (10000 : Int64)) hx hb hown (hts (.constantLong RX6 169 (10000)) (by decide +kernel)) dX6_runScript_105 ?_
                      refine lv_lrem hx hb dX6_runScript_108 (by decide) ?_
                      have e14 : (lN (sN x9 / 10000 ^ ((cN n - 1) - k))) - (lN (sN x9 / 10000 ^ ((cN n - 1) - k))) / (10000 : Int64) * (10000 : Int64) = lN ((sN x9 / 10000 ^ ((cN n - 1) - k)) % 10000) := lN_rem (by exact hlb) (by decide) (by decide)
                      rw [e14]
                      refine lv_l2i (v := nI ((sN x9 / 10000 ^ ((cN n - 1) - k)) % 10000)) hx hb dX6_runScript_109 (lN_i _) ?_
                      refine xw_Vi (As := [.int (nI ((sN x9 / 10000 ^ ((cN n - 1) - k)) % 10000))]) (rest := []) (wc := mw K h a (hrow (hrow (hput (hrow M 1 (mfS (M 0) R P (cN n) (sN x9) k)) 8 (0 : Int32)) 9 E) 10 F)) (wr := (List.filterMap (fun i => (mw K h a (hrow (hrow (hput (hrow M 1 (mfS (M 0) R P (cN n) (sN x9) k)) 8 (0 : Int32)) 9 E) 10 F) : va_W)[i]?) ([] : List Nat))) ⟨hx, hb, hml, hown, hts⟩ (c_X6_succeeds l K h a (hrow (hrow (hput (hrow M 1 (mfS (M 0) R P (cN n) (sN x9) k)) 8 (0 : Int32)) 9 E) 10 F) ((sN x9 / 10000 ^ ((cN n - 1) - k)) % 10000) (by omega) R (km_mf (by decide) hR0) (by omega) P (km_mf (by decide) hP0) (by omega) (hmo k (by omega)) H.size) (cwV 1 hts gX6_runScript_X6_succeeds rfl rfl rfl (by decide +kernel) ⟨Nat.le_of_ble_eq_true rfl, Nat.le_of_ble_eq_true rfl⟩) hK hP hD hS hA [0, 1, 2, 3, 4, 5, 6, 7, 8, 9] [] [0, 1, 2, 3, 4, 5, 6, 7, 8, 9] rfl rfl rfl (fun D110 => mw K h a (hrow (hrow (hput (hrow M 1 (msS ((mfS (M 0) R P (cN n) (sN x9) k)) R P ((sN x9 / 10000 ^ ((cN n - 1) - k)) % 10000))) 8 (0 : Int32)) 9 D110.1) 10 D110.2)) (fun _ => rfl) 0 6 rfl rfl rfl rfl hl.1 rfl (Nat.le_of_ble_eq_true rfl) (Nat.le_of_ble_eq_true rfl) (Nat.le_of_ble_eq_true rfl) dX6_runScript_110 (fun r110 D110 H locs hq110 hP hD hS => ?_)
                      have hP : va_P K.1 vwCl (mw K h a (hrow (hrow (hput (hrow M 1 (msS ((mfS (M 0) R P (cN n) (sN x9) k)) R P ((sN x9 / 10000 ^ ((cN n - 1) - k)) % 10000))) 8 (0 : Int32)) 9 D110.1) 10 D110.2)) H := hP
                      have hD : va_D A (mw K h a (hrow (hrow (hput (hrow M 1 (msS ((mfS (M 0) R P (cN n) (sN x9) k)) R P ((sN x9 / 10000 ^ ((cN n - 1) - k)) % 10000))) 8 (0 : Int32)) 9 D110.1) 10 D110.2)) := hD
                      have hq110 : r110 = bI (msB ((mfS (M 0) R P (cN n) (sN x9) k)) R P ((sN x9 / 10000 ^ ((cN n - 1) - k)) % 10000) = true) := hq110
                      subst hq110
                      refine xb_if_ne (tgt := 119) hx hb dX6_runScript_113 (by decide) (fun c_113 => ?_) (fun c_113 => ?_)
                      · skip
                        refine lv_iinc (v := nI (k + 1)) (lv' := [(6, .int (nI (k + 1))), (0, .ref h), (1, .int n), (2, .long x9), (7, .long (lN (sN x9 / 10000 ^ ((cN n - 1) - k)))), (9, .int (nI (cN n - 1)))]) hx hb dX6_runScript_119 hl (k := 3) rfl (nI_1 _) (by decide) rfl (fun ls hl => ?_)
                        refine lv_goto (tgt := 67) hx hb dX6_runScript_122 (by decide) ?_
                        have eR15 : (msS ((mfS (M 0) R P (cN n) (sN x9) k)) R P ((sN x9 / 10000 ^ ((cN n - 1) - k)) % 10000)) = mfS (M 0) R P (cN n) (sN x9) (k + 1) := by rfl
                        rw [eR15] at hP hD
                        have hP : va_P K.1 vwCl (mw K h a (hrow (hrow (hput (hrow M 1 (mfS (M 0) R P (cN n) (sN x9) (k + 1))) 8 (0 : Int32)) 9 D110.1) 10 D110.2)) H := hP
                        have hD : va_D A (mw K h a (hrow (hrow (hput (hrow M 1 (mfS (M 0) R P (cN n) (sN x9) (k + 1))) 8 (0 : Int32)) 9 D110.1) 10 D110.2)) := hD
                        exact ih67 (k + 1) D110.1 D110.2 _ _ _ (by omega) (by first | omega | assumption | first | rfl | (simp [c_38, c_43e, nc_50g, nc_50e, c_70, c_85, c_113]; done) | omega) (by rw [hF]; exact fstF_step (by omega) (by simp only [mfF, c_113]; decide)) hP hD hS (lv_cons (lv_at hl 1 rfl) (lv_cons (lv_at hl 2 rfl) (lv_cons (lv_at hl 3 rfl) (lv_cons (lv_at hl 0 rfl) (lv_nil hl)))))
                      · skip
                        refine lv_iload hx hb dX6_runScript_116 (lv_at hl 3 rfl) ?_
                        have eR16 : (0 : Int32) = nI (kRunM n x9) := by first | exact (congrArg nI (show kRunM n x9 = 0 from lm_run c_38 hnn (lx_lt nc_50g nc_50e))).symm | exact (congrArg nI (show kRunM n x9 = 1 from if_neg (fun y => by first | exact c_38 y.1 | exact y.2.1 (lx_neg nc_43g nc_43e) | exact lx_ge (Or.inl c_50g) y.2.2 | exact lx_ge (Or.inr c_50e) y.2.2))).symm
                        have hP : va_P K.1 vwCl (mw K h a (hrow (hrow (hput (hrow M 1 (msS ((mfS (M 0) R P (cN n) (sN x9) k)) R P ((sN x9 / 10000 ^ ((cN n - 1) - k)) % 10000))) 8 (nI (kRunM n x9))) 9 D110.1) 10 D110.2)) H := by rw [← eR16]; exact hP
                        have hD : va_D A (mw K h a (hrow (hrow (hput (hrow M 1 (msS ((mfS (M 0) R P (cN n) (sN x9) k)) R P ((sN x9 / 10000 ^ ((cN n - 1) - k)) % 10000))) 8 (nI (kRunM n x9))) 9 D110.1) 10 D110.2)) := by rw [← eR16]; exact hD
                        exact hend _ _ _ _ _ _ _ (msS ((mfS (M 0) R P (cN n) (sN x9) k)) R P ((sN x9 / 10000 ^ ((cN n - 1) - k)) % 10000), D110.1, D110.2) hP hD hS (Nat.le_of_ble_eq_true rfl) (Nat.le_of_ble_eq_true rfl) (by (intro _; rw [hF]; exact (fstF_hit (by omega) (by simp only [mfF]; simpa using c_113)).symm)) dX6_runScript_118
                    · skip
                      refine lv_lload hx hb dX6_runScript_88 (lv_at hl 4 rfl) ?_
                      refine lv_ldc2 (v := (10000 : Int64)) hx hb hown (hts (.constantLong RX6 169 (10000)) (by decide +kernel)) dX6_runScript_90 ?_
                      refine lv_ldiv hx hb dX6_runScript_93 (by decide) ?_
                      have e17 : (lN (sN x9 / 10000 ^ (j - k))) / (10000 : Int64) = lN ((sN x9 / 10000 ^ (j - k)) / 10000) := lN_div (by exact hlb) (by decide) (by decide)
                      rw [e17]
                      refine lv_lstore (lv' := [(7, .long (lN ((sN x9 / 10000 ^ (j - k)) / 10000))), (0, .ref h), (1, .int n), (2, .long x9), (6, .int (nI k)), (9, .int (nI j))]) hx hb dX6_runScript_94 hl (by decide) rfl (fun ls hl => ?_)
                      refine lv_iinc (v := nI (j + 1)) (lv' := [(9, .int (nI (j + 1))), (7, .long (lN ((sN x9 / 10000 ^ (j - k)) / 10000))), (0, .ref h), (1, .int n), (2, .long x9), (6, .int (nI k))]) hx hb dX6_runScript_96 hl (k := 5) rfl (nI_1 _) (by decide) rfl (fun ls hl => ?_)
                      refine lv_goto (tgt := 80) hx hb dX6_runScript_99 (by decide) ?_
                      exact ih80 (j + 1) _ _ _ (by omega) (by first | omega | assumption | first | rfl | (simp [c_38, c_43e, nc_50g, nc_50e, c_70, c_85]; done) | omega) (by first | omega | assumption | first | rfl | (simp [c_38, c_43e, nc_50g, nc_50e, c_70, c_85]; done) | omega) hP hD hS (lv_cons (lv_at hl 2 rfl) (lv_cons (lv_at hl 3 rfl) (lv_cons (lv_at hl 4 rfl) (lv_cons (lv_at hl 5 rfl) (lv_cons (lv_isL (lv_at hl 1 rfl) (show lN ((sN x9 / 10000 ^ (j - k)) / 10000) = lN (sN x9 / 10000 ^ ((j + 1) - k)) by rw [Nat.div_div_eq_div_mul, ← Nat.pow_succ, show j + 1 - k = j - k + 1 by omega])) (lv_cons (lv_at hl 0 rfl) (lv_nil hl)))))))
                exact lp80 _ k _ _ _ (Nat.lt_succ_self _) (by first | omega | assumption | first | rfl | (simp [c_38, c_43e, nc_50g, nc_50e, c_70]; done) | omega) (by first | omega | assumption | first | rfl | (simp [c_38, c_43e, nc_50g, nc_50e, c_70]; done) | omega) hP hD hS (lv_cons (lv_at hl 2 rfl) (lv_cons (lv_at hl 3 rfl) (lv_cons (lv_at hl 4 rfl) (lv_cons (lv_at hl 5 rfl) (lv_cons (lv_isL (lv_at hl 1 rfl) (show x9 = lN (sN x9 / 10000 ^ (k - k)) by (rw [Nat.sub_self, Nat.pow_zero, Nat.div_one]; exact hx9.1))) (lv_cons (lv_at hl 0 rfl) (lv_nil hl)))))))
          have eR18 : (M 0) = mfS (M 0) R P (cN n) (sN x9) 0 := by rfl
          have hP : va_P K.1 vwCl (mw K h a (hput (hrow M 1 (mfS (M 0) R P (cN n) (sN x9) 0)) 8 (0 : Int32))) H := by rw [← eR18]; exact hP
          have hD : va_D A (mw K h a (hput (hrow M 1 (mfS (M 0) R P (cN n) (sN x9) 0)) 8 (0 : Int32))) := by rw [← eR18]; exact hD
          have hP : va_P K.1 vwCl (mw K h a (hrow (hrow (hput (hrow M 1 (mfS (M 0) R P (cN n) (sN x9) 0)) 8 (0 : Int32)) 9 (M 9)) 10 (M 10))) H := hP
          have hD : va_D A (mw K h a (hrow (hrow (hput (hrow M 1 (mfS (M 0) R P (cN n) (sN x9) 0)) 8 (0 : Int32)) 9 (M 9)) 10 (M 10))) := hD
          exact lp67 _ 0 (M 9) (M 10) _ _ _ (Nat.lt_succ_self _) (by first | omega | assumption | first | rfl | (simp [c_38, c_43e, nc_50g, nc_50e]; done) | omega) (by rfl) hP hD hS (lv_cons (lv_at hl 2 rfl) (lv_cons (lv_at hl 3 rfl) (lv_cons (lv_at hl 4 rfl) (lv_cons (lv_is (lv_at hl 0 rfl) (show (0 : Int32) = nI 0 by rfl)) (lv_nil hl)))))
      · skip
        refine lv_if_lt (tgt := 54) hx hb dX6_runScript_44 (by decide) (fun c_44 => ?_) (fun c_44 => ?_)
        rotate_left
        · exact absurd (by decide) c_44
        refine lv_aload_n hx hb dX6_runScript_54 rfl (lv_at hl 1 rfl) ?_
        refine lv_iconst (v := (1 : Int32)) hx hb dX6_runScript_55 (by decide) ?_
        refine xw_Vi (As := [.int (1 : Int32)]) (rest := []) (wc := mw K h a (hput M 8 (0 : Int32))) (wr := (List.filterMap (fun i => (mw K h a (hput M 8 (0 : Int32)) : va_W)[i]?) ([] : List Nat))) ⟨hx, hb, hml, hown, hts⟩ (c_X6_fails l K h a (hput M 8 (0 : Int32)) (1 : Int32) H.size) (cwV 1 hts gX6_runScript_X6_fails rfl rfl rfl (by decide +kernel) ⟨Nat.le_of_ble_eq_true rfl, Nat.le_of_ble_eq_true rfl⟩) hK hP hD hS hA [0, 1, 2, 3, 4, 5, 6, 7, 8, 9] [] [0, 1, 2, 3, 4, 5, 6, 7, 8, 9] rfl rfl rfl (fun _u => mw K h a (hput M 8 (1 : Int32))) (fun _ => rfl) 0 6 rfl rfl rfl rfl hl.1 rfl (Nat.le_of_ble_eq_true rfl) (Nat.le_of_ble_eq_true rfl) (Nat.le_of_ble_eq_true rfl) dX6_runScript_56 (fun r56 _ H locs hq56 hP hD hS => ?_)
        have hP : va_P K.1 vwCl (mw K h a (hput M 8 (1 : Int32))) H := hP
        have hD : va_D A (mw K h a (hput M 8 (1 : Int32))) := hD
        subst hq56
        have eR19 : (1 : Int32) = nI (kRunM n x9) := by first | exact (congrArg nI (show kRunM n x9 = 0 from lm_run c_38 hnn (lx_lt nc_50g nc_50e))).symm | exact (congrArg nI (show kRunM n x9 = 1 from if_neg (fun y => by first | exact c_38 y.1 | exact y.2.1 (lx_neg nc_43g nc_43e) | exact lx_ge (Or.inl c_50g) y.2.2 | exact lx_ge (Or.inr c_50e) y.2.2))).symm
        have hP : va_P K.1 vwCl (mw K h a (hput M 8 (nI (kRunM n x9)))) H := by rw [← eR19]; exact hP
        have hD : va_D A (mw K h a (hput M 8 (nI (kRunM n x9)))) := by rw [← eR19]; exact hD
        exact hend _ _ _ _ _ _ _ (M 1, M 9, M 10) hP hD hS (Nat.le_of_ble_eq_true rfl) (Nat.le_of_ble_eq_true rfl) (by exact fun z => absurd z (by rw [show kRunM n x9 = 1 from if_neg (fun y => by first | exact c_38 y.1 | exact y.2.1 (lx_neg nc_43g nc_43e) | exact lx_ge (Or.inl c_50g) y.2.2 | exact lx_ge (Or.inr c_50e) y.2.2)]; decide)) dX6_runScript_59
  refine lv_iload_n hx hb dX6_runScript_5 rfl (lv_at hl 1 rfl) ?_
  refine lv_iconst (v := (1 : Int32)) hx hb dX6_runScript_6 (by decide) ?_
  refine lv_icmp_ne (tgt := 16) hx hb dX6_runScript_7 (by decide) (fun c_7 => ?_) (fun c_7 => ?_)
  · skip
    refine lv_iload_n hx hb dX6_runScript_16 rfl (lv_at hl 1 rfl) ?_
    refine lv_iconst (v := (2 : Int32)) hx hb dX6_runScript_17 (by decide) ?_
    refine lv_icmp_ne (tgt := 27) hx hb dX6_runScript_18 (by decide) (fun c_18 => ?_) (fun c_18 => ?_)
    · skip
      refine lv_ldc2 (v := (1000000000000 : Int64)) hx hb hown (hts (.constantLong RX6 173 (1000000000000)) (by decide +kernel)) dX6_runScript_27 ?_
      have e20 : (1000000000000 : Int64) = lN (lmM n) := by first | (rw [show lmM n = 10000 from (by simp [lmM, c_7, c_18]; done)]; rfl) | (rw [show lmM n = 100000000 from (by simp [lmM, c_7, c_18]; done)]; rfl) | (rw [show lmM n = 1000000000000 from (by simp [lmM, c_7, c_18]; done)]; rfl)
      rw [e20]
      exact jn30 _ _ _ hP hD hS (lv_cons (lv_at hl 0 rfl) (lv_cons (lv_at hl 1 rfl) (lv_cons (lv_at hl 2 rfl) (lv_nil hl))))
    · skip
      refine lv_ldc2 (v := (100000000 : Int64)) hx hb hown (hts (.constantLong RX6 171 (100000000)) (by decide +kernel)) dX6_runScript_21 ?_
      refine lv_goto (tgt := 30) hx hb dX6_runScript_24 (by decide) ?_
      have e21 : (100000000 : Int64) = lN (lmM n) := by first | (rw [show lmM n = 10000 from (by simp [lmM, c_7, c_18]; done)]; rfl) | (rw [show lmM n = 100000000 from (by simp [lmM, c_7, c_18]; done)]; rfl) | (rw [show lmM n = 1000000000000 from (by simp [lmM, c_7, c_18]; done)]; rfl)
      rw [e21]
      exact jn30 _ _ _ hP hD hS (lv_cons (lv_at hl 0 rfl) (lv_cons (lv_at hl 1 rfl) (lv_cons (lv_at hl 2 rfl) (lv_nil hl))))
  · skip
    refine lv_ldc2 (v := (10000 : Int64)) hx hb hown (hts (.constantLong RX6 169 (10000)) (by decide +kernel)) dX6_runScript_10 ?_
    refine lv_goto (tgt := 30) hx hb dX6_runScript_13 (by decide) ?_
    have e22 : (10000 : Int64) = lN (lmM n) := by first | (rw [show lmM n = 10000 from (by simp [lmM, c_7]; done)]; rfl) | (rw [show lmM n = 100000000 from (by simp [lmM, c_7]; done)]; rfl) | (rw [show lmM n = 1000000000000 from (by simp [lmM, c_7]; done)]; rfl)
    rw [e22]
    exact jn30 _ _ _ hP hD hS (lv_cons (lv_at hl 0 rfl) (lv_cons (lv_at hl 1 rfl) (lv_cons (lv_at hl 2 rfl) (lv_nil hl))))

/-! the model: days, playing, posting -/
def zrF (N : Nat → Int32) (a k : Nat) : Nat → Int32 := fun j => if a ≤ j ∧ j < a + k then 0 else N j
theorem zr_0 (N : Nat → Int32) (a : Nat) : N = zrF N a 0 := by
  funext j
  unfold zrF
  rw [if_neg (by omega)]
theorem zr_s (N : Nat → Int32) (a k : Nat) : upd (zrF N a k) (a + k) 0 = zrF N a (k + 1) := by
  funext j
  unfold upd zrF
  by_cases e : j = a + k
  · subst e
    rw [if_pos rfl, if_pos (by omega)]
  · rw [if_neg e]
    by_cases c : a ≤ j ∧ j < a + k
    · rw [if_pos c, if_pos (by omega)]
    · rw [if_neg c, if_neg (by omega)]
theorem km_zr {N : Nat → Int32} {a k i n : Nat} (h : i < a) (e : N i = nI n) : zrF N a k i = nI n := by
  unfold zrF
  rw [if_neg (by omega)]
  exact e
def mNx (N : Nat → Int32) : Nat → Int32 := zrF (upd (upd N 0 (N 0 + 1)) 10 0) 24 6
theorem km_nx {N : Nat → Int32} {i n : Nat} (h : i = 3 ∨ i = 4) (e : N i = nI n) : mNx N i = nI n := by
  unfold mNx
  exact km_zr (by omega) (mk_un (by omega) (mk_un (by omega) e))
def mNxn (N : Nat → Int32) : Nat → Nat → Int32 | 0 => N | k + 1 => mNx (mNxn N k)
theorem km_nxn {N : Nat → Int32} {i n : Nat} (h : i = 3 ∨ i = 4) (e : N i = nI n) : ∀ {k : Nat}, mNxn N k i = nI n
  | 0 => e
  | _ + 1 => km_nx h (km_nxn h e)
def mDk (N : Nat → Int32) (n P : Nat) : Nat → Int32 := zrF (mNxn N n) 40 P
theorem km_dk {N : Nat → Int32} {m P i n : Nat} (h : i = 3 ∨ i = 4) (e : N i = nI n) : mDk N m P i = nI n := km_zr (by omega) (km_nxn h e)
def b1 (N : Nat → Int32) (p r : Nat) : Nat → Int32 := upd N (30 + p) (N (30 + p) + mPay N p r)
def b2 (N : Nat → Int32) (p : Nat) : Nat → Int32 := upd N (60 + p) (N (60 + p) + 1)
def b3 (N : Nat → Int32) (p r : Nat) : Nat → Int32 := upd N (130 + 6 * p + r) (N (130 + 6 * p + r) + 1)
def b4 (N : Nat → Int32) (p r : Nat) : Nat → Int32 := upd N 11 (N 11 + (if N (18 + r) = nI p then 0 else 1))
def mPs (N : Nat → Int32) (p r : Nat) : Nat → Int32 := b4 (b3 (b2 (b1 N p r) p) p r) p r
theorem km_ps {N : Nat → Int32} {p r i n : Nat} (h : i = 3 ∨ i = 4) (e : N i = nI n) : mPs N p r i = nI n := by
  unfold mPs b4 b3 b2 b1
  exact mk_un (by omega) (mk_un (by omega) (mk_un (by omega) (mk_un (by omega) e)))
def mPf (N : Nat → Int32) (R P : Nat) : Nat → Nat → Int32 | 0 => N | k + 1 => mPs (mPf N R P k) (pkM N R P k) k
theorem km_pf {N : Nat → Int32} {R P i n : Nat} (h : i = 3 ∨ i = 4) (e : N i = nI n) : ∀ {k : Nat}, mPf N R P k i = nI n
  | 0 => e
  | _ + 1 => km_ps h (km_pf h e)
def mPd (N : Nat → Int32) (R P : Nat) : Nat → Int32 | 0 => 0 | k + 1 => mPd N R P k + mPay (mPf N R P k) (pkM N R P k) k
def rnF (N : Nat → Int32) (t k : Nat) : Nat → Int32 := fun j => if 40 ≤ j ∧ j < 40 + k then (if t.testBit (j - 40) = true then N j + 1 else 0) else N j
theorem rn_0 (N : Nat → Int32) (t : Nat) : N = rnF N t 0 := by
  funext j
  unfold rnF
  rw [if_neg (by omega)]
theorem rn_k (N : Nat → Int32) (t k : Nat) : rnF N t k (40 + k) = N (40 + k) := by
  unfold rnF
  rw [if_neg (by omega)]
theorem rn_s {N : Nat → Int32} {t k : Nat} {v : Int32} (h : v = if t.testBit k = true then N (40 + k) + 1 else 0) : upd (rnF N t k) (40 + k) v = rnF N t (k + 1) := by
  funext j
  unfold upd rnF
  by_cases e : j = 40 + k
  · subst e
    rw [if_pos rfl, if_pos (by omega), show 40 + k - 40 = k by omega, h]
  · rw [if_neg e]
    by_cases c : 40 ≤ j ∧ j < 40 + k
    · rw [if_pos c, if_pos (show 40 ≤ j ∧ j < 40 + (k + 1) by omega)]
    · rw [if_neg c, if_neg (show ¬ (40 ≤ j ∧ j < 40 + (k + 1)) by omega)]
theorem km_rn {N : Nat → Int32} {t k i n : Nat} (h : i = 3 ∨ i = 4) (e : N i = nI n) : rnF N t k i = nI n := by
  unfold rnF
  rw [if_neg (by omega)]
  exact e
def mK (N : Nat → Int32) (R P : Nat) : Nat := if mStr N R P < 0 then 0 else R
def mPlay (N : Nat → Int32) (R P : Nat) : Nat → Int32 := mNx (upd (rnF (mPf N R P (mK N R P)) (tkM N R P (mK N R P)) P) (if mStr N R P < 0 then 2 else 1) (rnF (mPf N R P (mK N R P)) (tkM N R P (mK N R P)) P (if mStr N R P < 0 then 2 else 1) + 1))
def mPaid (N : Nat → Int32) (R P : Nat) : Int32 := if mStr N R P < 0 then -1 else mPd N R P R
theorem km_play {N : Nat → Int32} {R P i n : Nat} (h : i = 3 ∨ i = 4) (e : N i = nI n) : mPlay N R P i = nI n := by
  unfold mPlay
  exact km_nx h (mk_un (by split <;> omega) (km_rn h (km_pf h e)))
theorem mcR_at {N : Nat → Int32} {R P k j : Nat} {f : Nat → Int32} (h : j < k) : mcR N R P f k j = csG N R P j := if_pos h
theorem pkM_w {N : Nat → Int32} {R P k : Nat} (hR : R ≤ 6) (hP : P ≤ 10) (hok : mOK N R P) (hd : ¬ mStr N R P < 0) (hk : k < R) : pkM N R P k < P ∧ csG N R P k = nI (pkM N R P k) ∧ tkM N R P (k + 1) = tkM N R P k ||| 2 ^ pkM N R P k := by
  have h := pkM_spec (E := fun t => dpS (wM N) R P (R - pop t) t) hR hP hok (fun t _ _ _ _ => rfl) (fun z => hd ((mStr_neg hok hR).mpr z)) hk
  exact ⟨h.2.1, h.2.2.1, h.2.2.2.1⟩
theorem mK_1 {N : Nat → Int32} {R P k : Nat} (hk : k ≤ R) (h0 : k = 0 ∨ ¬ mStr N R P < 0) (h : R ≤ k) : k = mK N R P := by
  unfold mK
  split
  · rename_i c
    rcases h0 with z | z
    · exact z
    · exact absurd c z
  · omega
theorem mK_2 {N : Nat → Int32} {R P k : Nat} (h0 : k = 0 ∨ ¬ mStr N R P < 0) (h : mStr N R P < 0) : k = mK N R P := by
  unfold mK
  rw [if_pos h]
  rcases h0 with z | z
  · exact z
  · exact absurd h z
theorem tkM_0 (N : Nat → Int32) (R P : Nat) : (0 : Int32) = nI (tkM N R P 0) := by
  unfold tkM
  split
  · rfl
  · rw [if_pos (Nat.zero_le R)]
    rfl
def poF (B N : Nat → Int32) (R P k : Nat) : Nat → Int32 := fun j => if 24 ≤ j ∧ j < 24 + k then csG N R P (j - 24) else B j
theorem po_0 (B N : Nat → Int32) (R P : Nat) : B = poF B N R P 0 := by
  funext j
  unfold poF
  rw [if_neg (by omega)]
theorem po_s {B N : Nat → Int32} {R P k : Nat} {v : Int32} (h : v = csG N R P k) : upd (poF B N R P k) (24 + k) v = poF B N R P (k + 1) := by
  funext j
  unfold upd poF
  by_cases e : j = 24 + k
  · subst e
    rw [if_pos rfl, if_pos (by omega), show 24 + k - 24 = k by omega, h]
  · rw [if_neg e]
    by_cases c : 24 ≤ j ∧ j < 24 + k
    · rw [if_pos c, if_pos (by omega)]
    · rw [if_neg c, if_neg (by omega)]
theorem km_po {B N : Nat → Int32} {R P k i n : Nat} (h : i = 3 ∨ i = 4) (e : B i = nI n) : poF B N R P k i = nI n := by
  unfold poF
  rw [if_neg (by omega)]
  exact e
def mPost (N : Nat → Int32) (R P : Nat) : Nat → Int32 := if mStr N R P < 0 then N else poF (upd N 10 1) N R P R
theorem km_post {N : Nat → Int32} {R P i n : Nat} (h : i = 3 ∨ i = 4) (e : N i = nI n) : mPost N R P i = nI n := by
  unfold mPost
  exact mk_ite e (km_po h (mk_un (by omega) e))

abbrev rm_X6_nextDay : Room := { frames := 0, cells := 0, slots := 0, locals := 0 }
set_option maxHeartbeats 4000000 in
set_option maxRecDepth 100000 in
theorem c_X6_nextDay (l : Launch) (K : KX) (q : Nat) (N : Nat → Int32) (sz : Nat) : Met l yX6_nextDay wsX6_nextDay rm_X6_nextDay (va_Pc [.ref q] (xPre K ([(q, aI K 190 N)]) sz)) (va_Qv (fun _u : Unit => True) (fun _u t => xPost K (va_A ([(q, aI K 190 N)]) sz) ([(q, aI K 190 (mNx N))]) t) (va_A ([(q, aI K 190 N)]) sz)) 0 0 (va_A ([(q, aI K 190 N)]) sz) := by
  refine xw_startv (cc := cX6_nextDay) (maxL := 2) (by decide) rfl (Nat.le_of_ble_eq_true rfl) ?_
  intro p9 e9 s9 m9 below9 meth9 c9 H locs ls A av9 Q9 hx hb hlocks hml hname hts hown hK hP hD hS hA hsz hend hl
  have hown : s9.vm.findClass RX6 = some m9.cls := hown
  have hl : lv_has ls 2 [(0, .ref q)] := hl
  refine lv_aload_n hx hb dX6_nextDay_0 rfl (lv_at hl 0 rfl) ?_
  refine lv_iconst (v := (0 : Int32)) hx hb dX6_nextDay_1 (by decide) ?_
  refine lv_dup2_11 hx hb dX6_nextDay_2 rfl rfl ?_
  refine xi_ld hx hb hK hP 0 (f := N) rfl 0 rfl (by omega) (by decide) dX6_nextDay_3 ?_
  refine lv_iconst (v := (1 : Int32)) hx hb dX6_nextDay_4 (by decide) ?_
  refine lv_iadd hx hb dX6_nextDay_5 ?_
  refine xi_st hx hb hK hP hD hS 0 (f := N) rfl 0 rfl (by omega) (by decide) ([(q, aI K 190 (upd N 0 ((N 0) + (1 : Int32))))]) rfl dX6_nextDay_6 (fun H locs hP hD hS => ?_)
  refine lv_aload_n hx hb dX6_nextDay_7 rfl (lv_at hl 0 rfl) ?_
  refine lv_bipush (v := (10 : Int32)) hx hb dX6_nextDay_8 (by decide) ?_
  refine lv_iconst (v := (0 : Int32)) hx hb dX6_nextDay_10 (by decide) ?_
  refine xi_st hx hb hK hP hD hS 0 (f := upd N 0 ((N 0) + (1 : Int32))) rfl 10 rfl (by omega) (by decide) ([(q, aI K 190 (upd (upd N 0 ((N 0) + (1 : Int32))) 10 (0 : Int32)))]) rfl dX6_nextDay_11 (fun H locs hP hD hS => ?_)
  refine lv_iconst (v := (0 : Int32)) hx hb dX6_nextDay_12 (by decide) ?_
  refine lv_istore_n (lv' := [(1, .int (0 : Int32)), (0, .ref q)]) hx hb dX6_nextDay_13 rfl hl (by decide) rfl (fun ls hl => ?_)
  have lp14 : ∀ (n9 : Nat) (k : Nat) (H : Heap) (locs : List Loc) (ls : Array Slot), 6 - k < n9 → (k ≤ 6) → va_P K.1 vwCl ([(q, aI K 190 (zrF (upd (upd N 0 ((N 0) + (1 : Int32))) 10 (0 : Int32)) 24 k))]) H → va_D A ([(q, aI K 190 (zrF (upd (upd N 0 ((N 0) + (1 : Int32))) 10 (0 : Int32)) 24 k))]) → va_S A s9.heap H locs → lv_has ls 2 [(0, .ref q), (1, .int (nI k))] → W p9 l e9 rm_X6_nextDay s9 m9 av9 below9 meth9 c9 H locs 0 0 Q9 (F0 m9 14 ls []) := by
    intro n9
    induction n9 with
    | zero => intro k H locs ls hmu hk hP hD hS hl; exact absurd hmu (Nat.not_lt_zero _)
    | succ n9 ih14 =>
      intro k H locs ls hmu hk hP hD hS hl
      refine lv_iload_n hx hb dX6_nextDay_14 rfl (lv_at hl 1 rfl) ?_
      refine lv_bipush (v := (6 : Int32)) hx hb dX6_nextDay_15 (by decide) ?_
      refine xn_icmp_ge (tgt := 33) hx hb k 6 rfl rfl (by omega) (by decide) dX6_nextDay_17 (by decide) (fun c_17 => ?_) (fun c_17 => ?_)
      · skip
        have eS0 : (zrF (upd (upd N 0 ((N 0) + (1 : Int32))) 10 (0 : Int32)) 24 k) = mNx N := by (rw [show k = 6 by omega]; rfl)
        rw [eS0] at hP hD
        exact hend _ _ _ _ _ _ () hP hD hS (Nat.le_of_ble_eq_true rfl) (Nat.le_of_ble_eq_true rfl) trivial dX6_nextDay_33
      · skip
        refine lv_aload_n hx hb dX6_nextDay_20 rfl (lv_at hl 0 rfl) ?_
        refine lv_bipush (v := (24 : Int32)) hx hb dX6_nextDay_21 (by decide) ?_
        refine lv_iload_n hx hb dX6_nextDay_23 rfl (lv_at hl 1 rfl) ?_
        refine lv_iadd hx hb dX6_nextDay_24 ?_
        refine lv_iconst (v := (0 : Int32)) hx hb dX6_nextDay_25 (by decide) ?_
        refine xi_st hx hb hK hP hD hS 0 (f := zrF (upd (upd N 0 ((N 0) + (1 : Int32))) 10 (0 : Int32)) 24 k) rfl (24 + k) (nn_add rfl rfl) (by omega) (by decide) ([(q, aI K 190 (upd (zrF (upd (upd N 0 ((N 0) + (1 : Int32))) 10 (0 : Int32)) 24 k) (24 + k) (0 : Int32)))]) rfl dX6_nextDay_26 (fun H locs hP hD hS => ?_)
        refine lv_iinc (v := nI (k + 1)) (lv' := [(1, .int (nI (k + 1))), (0, .ref q)]) hx hb dX6_nextDay_27 hl (k := 1) rfl (nI_1 _) (by decide) rfl (fun ls hl => ?_)
        refine lv_goto (tgt := 14) hx hb dX6_nextDay_30 (by decide) ?_
        have eS0 : (upd (zrF (upd (upd N 0 ((N 0) + (1 : Int32))) 10 (0 : Int32)) 24 k) (24 + k) (0 : Int32)) = zrF (upd (upd N 0 ((N 0) + (1 : Int32))) 10 (0 : Int32)) 24 (k + 1) := by exact zr_s _ _ _
        have hP : va_P K.1 vwCl ([(q, aI K 190 (zrF (upd (upd N 0 ((N 0) + (1 : Int32))) 10 (0 : Int32)) 24 (k + 1)))]) H := by rw [← eS0]; exact hP
        have hD : va_D A ([(q, aI K 190 (zrF (upd (upd N 0 ((N 0) + (1 : Int32))) 10 (0 : Int32)) 24 (k + 1)))]) := by rw [← eS0]; exact hD
        exact ih14 (k + 1) _ _ _ (by omega) (by first | omega | assumption | first | rfl | (simp [c_17]; done) | omega) hP hD hS (lv_cons (lv_at hl 1 rfl) (lv_cons (lv_at hl 0 rfl) (lv_nil hl)))
  have eS0 : (upd (upd N 0 ((N 0) + (1 : Int32))) 10 (0 : Int32)) = zrF (upd (upd N 0 ((N 0) + (1 : Int32))) 10 (0 : Int32)) 24 0 := by exact zr_0 _ _
  have hP : va_P K.1 vwCl ([(q, aI K 190 (zrF (upd (upd N 0 ((N 0) + (1 : Int32))) 10 (0 : Int32)) 24 0))]) H := by rw [← eS0]; exact hP
  have hD : va_D A ([(q, aI K 190 (zrF (upd (upd N 0 ((N 0) + (1 : Int32))) 10 (0 : Int32)) 24 0))]) := by rw [← eS0]; exact hD
  exact lp14 _ 0 _ _ _ (Nat.lt_succ_self _) (by first | omega | assumption | first | rfl | (simp; done) | omega) hP hD hS (lv_cons (lv_at hl 1 rfl) (lv_cons (lv_is (lv_at hl 0 rfl) (show (0 : Int32) = nI 0 by first | rfl | (simp; done) | omega)) (lv_nil hl)))

abbrev rm_X6_rests : Room := { frames := 0, cells := 0, slots := 0, locals := 0 }
set_option maxHeartbeats 4000000 in
set_option maxRecDepth 100000 in
theorem c_X6_rests (l : Launch) (K : KX) (q : Nat) (N : Nat → Int32) (p : Nat) (hp : p < 10) (sz : Nat) : Met l yX6_rests wsX6_rests rm_X6_rests (va_Pc [.ref q, .int (nI p)] (xPre K ([(q, aI K 190 N)]) sz)) (va_Qv (fun _u : Unit => True) (fun _u t => xPost K (va_A ([(q, aI K 190 N)]) sz) ([(q, aI K 190 (upd N (40 + p) 0))]) t) (va_A ([(q, aI K 190 N)]) sz)) 0 0 (va_A ([(q, aI K 190 N)]) sz) := by
  refine xw_startv (cc := cX6_rests) (maxL := 2) (by decide) rfl (Nat.le_of_ble_eq_true rfl) ?_
  intro p9 e9 s9 m9 below9 meth9 c9 H locs ls A av9 Q9 hx hb hlocks hml hname hts hown hK hP hD hS hA hsz hend hl
  have hown : s9.vm.findClass RX6 = some m9.cls := hown
  have hl : lv_has ls 2 [(0, .ref q), (1, .int (nI p))] := hl
  refine lv_aload_n hx hb dX6_rests_0 rfl (lv_at hl 0 rfl) ?_
  refine lv_bipush (v := (40 : Int32)) hx hb dX6_rests_1 (by decide) ?_
  refine lv_iload_n hx hb dX6_rests_3 rfl (lv_at hl 1 rfl) ?_
  refine lv_iadd hx hb dX6_rests_4 ?_
  refine lv_iconst (v := (0 : Int32)) hx hb dX6_rests_5 (by decide) ?_
  refine xi_st hx hb hK hP hD hS 0 (f := N) rfl (40 + p) (nn_add rfl rfl) (by omega) (by decide) ([(q, aI K 190 (upd N (40 + p) (0 : Int32)))]) rfl dX6_rests_6 (fun H locs hP hD hS => ?_)
  have eS0 : (upd N (40 + p) (0 : Int32)) = upd N (40 + p) 0 := by first | rfl | (simp; done) | omega
  rw [eS0] at hP hD
  exact hend _ _ _ _ _ _ () hP hD hS (Nat.le_of_ble_eq_true rfl) (Nat.le_of_ble_eq_true rfl) trivial dX6_rests_7

abbrev rm_X6_darkens : Room := { frames := 1, cells := 0, slots := 0, locals := 21 }
set_option maxHeartbeats 4000000 in
set_option maxRecDepth 100000 in
theorem c_X6_darkens (l : Launch) (K : KX) (q : Nat) (N : Nat → Int32) (n : Nat) (hn : n < 2147483648) (P : Nat) (hP0 : N 4 = nI P) (hP0b : P ≤ 10) (sz : Nat) : Met l yX6_darkens wsX6_darkens rm_X6_darkens (va_Pc [.ref q, .int (nI n)] (xPre K ([(q, aI K 190 N)]) sz)) (va_Qv (fun _u : Unit => True) (fun _u t => xPost K (va_A ([(q, aI K 190 N)]) sz) ([(q, aI K 190 (mDk N n P))]) t) (va_A ([(q, aI K 190 N)]) sz)) 0 0 (va_A ([(q, aI K 190 N)]) sz) := by
  refine xw_startv (cc := cX6_darkens) (maxL := 3) (by decide) rfl (Nat.le_of_ble_eq_true rfl) ?_
  intro p9 e9 s9 m9 below9 meth9 c9 H locs ls A av9 Q9 hx hb hlocks hml hname hts hown hK hP hD hS hA hsz hend hl
  have hown : s9.vm.findClass RX6 = some m9.cls := hown
  have hl : lv_has ls 3 [(0, .ref q), (1, .int (nI n))] := hl
  refine lv_iconst (v := (0 : Int32)) hx hb dX6_darkens_0 (by decide) ?_
  refine lv_istore_n (lv' := [(2, .int (0 : Int32)), (0, .ref q), (1, .int (nI n))]) hx hb dX6_darkens_1 rfl hl (by decide) rfl (fun ls hl => ?_)
  have lp2 : ∀ (n9 : Nat) (k : Nat) (H : Heap) (locs : List Loc) (ls : Array Slot), n - k < n9 → (k ≤ n) → va_P K.1 vwCl ([(q, aI K 190 (mNxn N k))]) H → va_D A ([(q, aI K 190 (mNxn N k))]) → va_S A s9.heap H locs → lv_has ls 3 [(0, .ref q), (1, .int (nI n)), (2, .int (nI k))] → W p9 l e9 rm_X6_darkens s9 m9 av9 below9 meth9 c9 H locs 0 0 Q9 (F0 m9 2 ls []) := by
    intro n9
    induction n9 with
    | zero => intro k H locs ls hmu hk hP hD hS hl; exact absurd hmu (Nat.not_lt_zero _)
    | succ n9 ih2 =>
      intro k H locs ls hmu hk hP hD hS hl
      refine lv_iload_n hx hb dX6_darkens_2 rfl (lv_at hl 2 rfl) ?_
      refine lv_iload_n hx hb dX6_darkens_3 rfl (lv_at hl 1 rfl) ?_
      refine xn_icmp_ge (tgt := 17) hx hb k n rfl rfl (by omega) (by omega) dX6_darkens_4 (by decide) (fun c_4 => ?_) (fun c_4 => ?_)
      · skip
        have hk9 : n = k := (show k = n from by omega).symm
        subst hk9
        refine lv_iconst (v := (0 : Int32)) hx hb dX6_darkens_17 (by decide) ?_
        refine lv_istore_n (lv' := [(2, .int (0 : Int32)), (0, .ref q), (1, .int (nI n))]) hx hb dX6_darkens_18 rfl hl (by decide) rfl (fun ls hl => ?_)
        have lp19 : ∀ (n9 : Nat) (k : Nat) (H : Heap) (locs : List Loc) (ls : Array Slot), P - k < n9 → (k ≤ P) → va_P K.1 vwCl ([(q, aI K 190 (zrF (mNxn N n) 40 k))]) H → va_D A ([(q, aI K 190 (zrF (mNxn N n) 40 k))]) → va_S A s9.heap H locs → lv_has ls 3 [(0, .ref q), (1, .int (nI n)), (2, .int (nI k))] → W p9 l e9 rm_X6_darkens s9 m9 av9 below9 meth9 c9 H locs 0 0 Q9 (F0 m9 19 ls []) := by
          intro n9
          induction n9 with
          | zero => intro k H locs ls hmu hk hP hD hS hl; exact absurd hmu (Nat.not_lt_zero _)
          | succ n9 ih19 =>
            intro k H locs ls hmu hk hP hD hS hl
            refine lv_iload_n hx hb dX6_darkens_19 rfl (lv_at hl 2 rfl) ?_
            refine lv_aload_n hx hb dX6_darkens_20 rfl (lv_at hl 0 rfl) ?_
            refine lv_iconst (v := (4 : Int32)) hx hb dX6_darkens_21 (by decide) ?_
            refine xi_ld hx hb hK hP 0 (f := zrF (mNxn N n) 40 k) rfl 4 rfl (by omega) (by decide) dX6_darkens_22 ?_
            refine xn_icmp_ge (tgt := 37) hx hb k P rfl (km_zr (by decide) (km_nxn (by decide) hP0)) (by omega) (by omega) dX6_darkens_23 (by decide) (fun c_23 => ?_) (fun c_23 => ?_)
            · skip
              have eS0 : (zrF (mNxn N n) 40 k) = mDk N n P := by (rw [show k = P by omega]; rfl)
              rw [eS0] at hP hD
              exact hend _ _ _ _ _ _ () hP hD hS (Nat.le_of_ble_eq_true rfl) (Nat.le_of_ble_eq_true rfl) trivial dX6_darkens_37
            · skip
              refine lv_aload_n hx hb dX6_darkens_26 rfl (lv_at hl 0 rfl) ?_
              refine lv_iload_n hx hb dX6_darkens_27 rfl (lv_at hl 2 rfl) ?_
              refine xw_Sv (As := [.ref q, .int (nI k)]) (rest := []) (wc := [(q, aI K 190 (zrF (mNxn N n) 40 k))]) (wr := (List.filterMap (fun i => ([(q, aI K 190 (zrF (mNxn N n) 40 k))] : va_W)[i]?) ([] : List Nat))) ⟨hx, hb, hml, hown, hts⟩ (c_X6_rests l K q (zrF (mNxn N n) 40 k) k (by omega) H.size) (va_cwS 2 hts gX6_darkens_X6_rests rfl rfl rfl (by decide +kernel) ⟨Nat.le_of_ble_eq_true rfl, Nat.le_of_ble_eq_true rfl⟩) hK hP hD hS hA [0] [] [0] rfl rfl rfl (fun _u => [(q, aI K 190 (upd (zrF (mNxn N n) 40 k) (40 + k) 0))]) (fun _ => rfl) rfl hl.1 rfl (Nat.le_of_ble_eq_true rfl) (Nat.le_of_ble_eq_true rfl) (Nat.le_of_ble_eq_true rfl) dX6_darkens_28 (fun _ H locs hq28 hP hD hS => ?_)
              have hP : va_P K.1 vwCl ([(q, aI K 190 (upd (zrF (mNxn N n) 40 k) (40 + k) 0))]) H := hP
              have hD : va_D A ([(q, aI K 190 (upd (zrF (mNxn N n) 40 k) (40 + k) 0))]) := hD
              refine lv_iinc (v := nI (k + 1)) (lv' := [(2, .int (nI (k + 1))), (0, .ref q), (1, .int (nI n))]) hx hb dX6_darkens_31 hl (k := 2) rfl (nI_1 _) (by decide) rfl (fun ls hl => ?_)
              refine lv_goto (tgt := 19) hx hb dX6_darkens_34 (by decide) ?_
              have eS0 : (upd (zrF (mNxn N n) 40 k) (40 + k) 0) = zrF (mNxn N n) 40 (k + 1) := by exact zr_s _ _ _
              have hP : va_P K.1 vwCl ([(q, aI K 190 (zrF (mNxn N n) 40 (k + 1)))]) H := by rw [← eS0]; exact hP
              have hD : va_D A ([(q, aI K 190 (zrF (mNxn N n) 40 (k + 1)))]) := by rw [← eS0]; exact hD
              exact ih19 (k + 1) _ _ _ (by omega) (by first | omega | assumption | first | rfl | (simp [c_4, c_23]; done) | omega) hP hD hS (lv_cons (lv_at hl 1 rfl) (lv_cons (lv_at hl 2 rfl) (lv_cons (lv_at hl 0 rfl) (lv_nil hl))))
        have eS0 : (mNxn N n) = zrF (mNxn N n) 40 0 := by exact zr_0 _ _
        have hP : va_P K.1 vwCl ([(q, aI K 190 (zrF (mNxn N n) 40 0))]) H := by rw [← eS0]; exact hP
        have hD : va_D A ([(q, aI K 190 (zrF (mNxn N n) 40 0))]) := by rw [← eS0]; exact hD
        exact lp19 _ 0 _ _ _ (Nat.lt_succ_self _) (by first | omega | assumption | first | rfl | (simp [c_4]; done) | omega) hP hD hS (lv_cons (lv_at hl 1 rfl) (lv_cons (lv_at hl 2 rfl) (lv_cons (lv_is (lv_at hl 0 rfl) (show (0 : Int32) = nI 0 by first | rfl | (simp [c_4]; done) | omega)) (lv_nil hl))))
      · skip
        refine lv_aload_n hx hb dX6_darkens_7 rfl (lv_at hl 0 rfl) ?_
        refine xw_Sv (As := [.ref q]) (rest := []) (wc := [(q, aI K 190 (mNxn N k))]) (wr := (List.filterMap (fun i => ([(q, aI K 190 (mNxn N k))] : va_W)[i]?) ([] : List Nat))) ⟨hx, hb, hml, hown, hts⟩ (c_X6_nextDay l K q (mNxn N k) H.size) (va_cwS 1 hts gX6_darkens_X6_nextDay rfl rfl rfl (by decide +kernel) ⟨Nat.le_of_ble_eq_true rfl, Nat.le_of_ble_eq_true rfl⟩) hK hP hD hS hA [0] [] [0] rfl rfl rfl (fun _u => [(q, aI K 190 (mNx (mNxn N k)))]) (fun _ => rfl) rfl hl.1 rfl (Nat.le_of_ble_eq_true rfl) (Nat.le_of_ble_eq_true rfl) (Nat.le_of_ble_eq_true rfl) dX6_darkens_8 (fun _ H locs hq8 hP hD hS => ?_)
        have hP : va_P K.1 vwCl ([(q, aI K 190 (mNx (mNxn N k)))]) H := hP
        have hD : va_D A ([(q, aI K 190 (mNx (mNxn N k)))]) := hD
        refine lv_iinc (v := nI (k + 1)) (lv' := [(2, .int (nI (k + 1))), (0, .ref q), (1, .int (nI n))]) hx hb dX6_darkens_11 hl (k := 2) rfl (nI_1 _) (by decide) rfl (fun ls hl => ?_)
        refine lv_goto (tgt := 2) hx hb dX6_darkens_14 (by decide) ?_
        have eS0 : (mNx (mNxn N k)) = mNxn N (k + 1) := by rfl
        have hP : va_P K.1 vwCl ([(q, aI K 190 (mNxn N (k + 1)))]) H := by rw [← eS0]; exact hP
        have hD : va_D A ([(q, aI K 190 (mNxn N (k + 1)))]) := by rw [← eS0]; exact hD
        exact ih2 (k + 1) _ _ _ (by omega) (by first | omega | assumption | first | rfl | (simp [c_4]; done) | omega) hP hD hS (lv_cons (lv_at hl 1 rfl) (lv_cons (lv_at hl 2 rfl) (lv_cons (lv_at hl 0 rfl) (lv_nil hl))))
  have eS0 : (N) = mNxn N 0 := by rfl
  have hP : va_P K.1 vwCl ([(q, aI K 190 (mNxn N 0))]) H := by rw [← eS0]; exact hP
  have hD : va_D A ([(q, aI K 190 (mNxn N 0))]) := by rw [← eS0]; exact hD
  exact lp2 _ 0 _ _ _ (Nat.lt_succ_self _) (by first | omega | assumption | first | rfl | (simp; done) | omega) hP hD hS (lv_cons (lv_at hl 1 rfl) (lv_cons (lv_at hl 2 rfl) (lv_cons (lv_is (lv_at hl 0 rfl) (show (0 : Int32) = nI 0 by first | rfl | (simp; done) | omega)) (lv_nil hl))))

abbrev rm_X6_plays_n : Room := { frames := 4, cells := 0, slots := 0, locals := 96 }
set_option maxHeartbeats 4000000 in
set_option maxRecDepth 100000 in
theorem c_X6_plays_n (l : Launch) (K : KX) (h : Nat) (a : Nat → Nat) (M : HV) (R : Nat) (hR0 : M 0 3 = nI R) (hR0b : R ≤ 6) (P : Nat) (hP0 : M 0 4 = nI P) (hP0b : P ≤ 10) (hok : mOK (M 0) R P) (sz : Nat) : Met l yX6_plays wsX6_plays rm_X6_plays_n (va_Pc [.ref h, .ref (a 0)] (xPre K (mw K h a M) sz)) (va_Qi (fun (r9 : Int32) (u9 : Nat → Int32) => r9 = mPaid (M 0) R P) (fun u9 t => xPost K (va_A (mw K h a M) sz) (mw K h a (hrow (hrow (hrow M 0 (mPlay (M 0) R P)) 9 u9) 10 (mcR (M 0) R P (M 10) 6))) t) (va_A (mw K h a M) sz)) 0 0 (va_A (mw K h a M) sz) := by
  refine xw_starti (cc := cX6_plays) (maxL := 8) (by decide) rfl (Nat.le_of_ble_eq_true rfl) ?_
  intro p9 e9 s9 m9 below9 meth9 c9 H locs ls A av9 Q9 hx hb hlocks hml hname hts hown hK hP hD hS hA hsz hend hl
  have hown : s9.vm.findClass RX6 = some m9.cls := hown
  have hl : lv_has ls 8 [(0, .ref h), (1, .ref (a 0))] := hl
  have hi6 : ∀ w ∈ u_ws RX6 TX6 14, w ∈ wsX6_plays := by decide +kernel
  have lk32 := hts (.fieldLink RX6 32 "StandInsModel" "cast" "[I") (by decide +kernel)
  refine lv_aload_n hx hb dX6_plays_0 rfl (lv_at hl 0 rfl) ?_
  refine lv_aload_n hx hb dX6_plays_1 rfl (lv_at hl 1 rfl) ?_
  refine xw_Vi (As := [.ref (a 0)]) (rest := []) (wc := mw K h a M) (wr := (List.filterMap (fun i => (mw K h a M : va_W)[i]?) ([] : List Nat))) ⟨hx, hb, hml, hown, hts⟩ (c_X6_casts_n l K h a M R hR0 (by omega) P hP0 (by omega) (by first | assumption | omega) H.size) (cwV 1 hts gX6_plays_X6_casts rfl rfl rfl (by decide +kernel) ⟨Nat.le_of_ble_eq_true rfl, Nat.le_of_ble_eq_true rfl⟩) hK hP hD hS hA [0, 1, 2, 3, 4, 5, 6, 7, 8, 9] [] [0, 1, 2, 3, 4, 5, 6, 7, 8, 9] rfl rfl rfl (fun E2 => mw K h a (hrow (hrow M 9 E2) 10 (mcR (M 0) R P (M 10) 6))) (fun _ => rfl) 0 6 rfl rfl rfl rfl hl.1 rfl (Nat.le_of_ble_eq_true rfl) (Nat.le_of_ble_eq_true rfl) (Nat.le_of_ble_eq_true rfl) dX6_plays_2 (fun r2 E2 H locs hq2 hP hD hS => ?_)
  have hP : va_P K.1 vwCl (mw K h a (hrow (hrow M 9 E2) 10 (mcR (M 0) R P (M 10) 6))) H := hP
  have hD : va_D A (mw K h a (hrow (hrow M 9 E2) 10 (mcR (M 0) R P (M 10) 6))) := hD
  subst hq2
  refine lv_istore_n (lv' := [(2, .int (mStr (M 0) R P)), (0, .ref h), (1, .ref (a 0))]) hx hb dX6_plays_5 rfl hl (by decide) rfl (fun ls hl => ?_)
  refine lv_iconst (v := (0 : Int32)) hx hb dX6_plays_6 (by decide) ?_
  refine lv_istore_n (lv' := [(3, .int (0 : Int32)), (2, .int (mStr (M 0) R P)), (0, .ref h), (1, .ref (a 0))]) hx hb dX6_plays_7 rfl hl (by decide) rfl (fun ls hl => ?_)
  refine lv_iconst (v := (0 : Int32)) hx hb dX6_plays_8 (by decide) ?_
  refine lv_istore (lv' := [(4, .int (0 : Int32)), (3, .int (0 : Int32)), (2, .int (mStr (M 0) R P)), (0, .ref h), (1, .ref (a 0))]) hx hb dX6_plays_9 hl (by decide) rfl (fun ls hl => ?_)
  refine lv_iconst (v := (0 : Int32)) hx hb dX6_plays_11 (by decide) ?_
  refine lv_istore (lv' := [(5, .int (0 : Int32)), (4, .int (0 : Int32)), (3, .int (0 : Int32)), (2, .int (mStr (M 0) R P)), (0, .ref h), (1, .ref (a 0))]) hx hb dX6_plays_12 hl (by decide) rfl (fun ls hl => ?_)
  have lp14 : ∀ (n9 : Nat) (k : Nat) (H : Heap) (locs : List Loc) (ls : Array Slot), R - k < n9 → (k ≤ R) → (k = 0 ∨ ¬ mStr (M 0) R P < 0) → va_P K.1 vwCl (mw K h a (hrow (hrow (hrow M 0 (mPf (M 0) R P k)) 9 E2) 10 (mcR (M 0) R P (M 10) 6))) H → va_D A (mw K h a (hrow (hrow (hrow M 0 (mPf (M 0) R P k)) 9 E2) 10 (mcR (M 0) R P (M 10) 6))) → va_S A s9.heap H locs → lv_has ls 8 [(0, .ref h), (1, .ref (a 0)), (2, .int (mStr (M 0) R P)), (3, .int (mPd (M 0) R P k)), (4, .int (nI (tkM (M 0) R P k))), (5, .int (nI k))] → W p9 l e9 rm_X6_plays_n s9 m9 av9 below9 meth9 c9 H locs 0 0 Q9 (F0 m9 14 ls []) := by
    intro n9
    induction n9 with
    | zero => intro k H locs ls hmu hk hs0 hP hD hS hl; exact absurd hmu (Nat.not_lt_zero _)
    | succ n9 ih14 =>
      intro k H locs ls hmu hk hs0 hP hD hS hl
      refine lv_iload hx hb dX6_plays_14 (lv_at hl 5 rfl) ?_
      refine lv_aload_n hx hb dX6_plays_16 rfl (lv_at hl 1 rfl) ?_
      refine lv_iconst (v := (3 : Int32)) hx hb dX6_plays_17 (by decide) ?_
      refine xi_ld hx hb hK hP 1 (f := (mPf (M 0) R P k)) rfl 3 rfl (by omega) (by decide) dX6_plays_18 ?_
      refine xn_icmp_ge (tgt := 130) hx hb k R rfl (km_pf (by decide) hR0) (by omega) (by omega) dX6_plays_19 (by decide) (fun c_19 => ?_) (fun c_19 => ?_)
      · skip
        have hk9 : mK (M 0) R P = k := (show k = mK (M 0) R P from mK_1 hk hs0 c_19).symm
        subst hk9
        refine lv_iconst (v := (0 : Int32)) hx hb dX6_plays_130 (by decide) ?_
        refine lv_istore (lv' := [(5, .int (0 : Int32)), (0, .ref h), (1, .ref (a 0)), (2, .int (mStr (M 0) R P)), (3, .int (mPd (M 0) R P (mK (M 0) R P))), (4, .int (nI (tkM (M 0) R P (mK (M 0) R P))))]) hx hb dX6_plays_131 hl (by decide) rfl (fun ls hl => ?_)
        have lp133 : ∀ (n9 : Nat) (p : Nat) (H : Heap) (locs : List Loc) (ls : Array Slot), P - p < n9 → (p ≤ P) → va_P K.1 vwCl (mw K h a (hrow (hrow (hrow M 0 (rnF (mPf (M 0) R P (mK (M 0) R P)) (tkM (M 0) R P (mK (M 0) R P)) p)) 9 E2) 10 (mcR (M 0) R P (M 10) 6))) H → va_D A (mw K h a (hrow (hrow (hrow M 0 (rnF (mPf (M 0) R P (mK (M 0) R P)) (tkM (M 0) R P (mK (M 0) R P)) p)) 9 E2) 10 (mcR (M 0) R P (M 10) 6))) → va_S A s9.heap H locs → lv_has ls 8 [(0, .ref h), (1, .ref (a 0)), (2, .int (mStr (M 0) R P)), (3, .int (mPd (M 0) R P (mK (M 0) R P))), (4, .int (nI (tkM (M 0) R P (mK (M 0) R P)))), (5, .int (nI p))] → W p9 l e9 rm_X6_plays_n s9 m9 av9 below9 meth9 c9 H locs 0 0 Q9 (F0 m9 133 ls []) := by
          intro n9
          induction n9 with
          | zero => intro p H locs ls hmu hp9 hP hD hS hl; exact absurd hmu (Nat.not_lt_zero _)
          | succ n9 ih133 =>
            intro p H locs ls hmu hp9 hP hD hS hl
            have htk := tkM_lt (N := (M 0)) (R := R) hP0b (mK (M 0) R P)
            have hpw := pw_le hP0b
            refine lv_iload hx hb dX6_plays_133 (lv_at hl 5 rfl) ?_
            refine lv_aload_n hx hb dX6_plays_135 rfl (lv_at hl 1 rfl) ?_
            refine lv_iconst (v := (4 : Int32)) hx hb dX6_plays_136 (by decide) ?_
            refine xi_ld hx hb hK hP 1 (f := (rnF (mPf (M 0) R P (mK (M 0) R P)) (tkM (M 0) R P (mK (M 0) R P)) p)) rfl 4 rfl (by omega) (by decide) dX6_plays_137 ?_
            refine xn_icmp_ge (tgt := 178) hx hb p P rfl (km_rn (by decide) (km_pf (by decide) hP0)) (by omega) (by omega) dX6_plays_138 (by decide) (fun c_138 => ?_) (fun c_138 => ?_)
            · skip
              have hp9 : P = p := (show p = P from by omega).symm
              subst hp9
              refine lv_aload_n hx hb dX6_plays_178 rfl (lv_at hl 1 rfl) ?_
              refine lv_iload_n hx hb dX6_plays_179 rfl (lv_at hl 2 rfl) ?_
              refine lv_if_ge (tgt := 187) hx hb dX6_plays_180 (by decide) (fun c_180 => ?_) (fun c_180 => ?_)
              · skip
                have c_180n := Int32.not_lt.mpr c_180
                refine lv_iconst (v := (1 : Int32)) hx hb dX6_plays_187 (by decide) ?_
                refine lv_dup2_11 hx hb dX6_plays_188 rfl rfl ?_
                refine xi_ld hx hb hK hP 1 (f := (rnF (mPf (M 0) R P (mK (M 0) R P)) (tkM (M 0) R P (mK (M 0) R P)) P)) rfl 1 rfl (by omega) (by decide) dX6_plays_189 ?_
                refine lv_iconst (v := (1 : Int32)) hx hb dX6_plays_190 (by decide) ?_
                refine lv_iadd hx hb dX6_plays_191 ?_
                refine xi_st hx hb hK hP hD hS 1 (f := (rnF (mPf (M 0) R P (mK (M 0) R P)) (tkM (M 0) R P (mK (M 0) R P)) P)) rfl 1 rfl (by omega) (by decide) (mw K h a (hrow (hrow (hrow M 0 (upd (rnF (mPf (M 0) R P (mK (M 0) R P)) (tkM (M 0) R P (mK (M 0) R P)) P) 1 (((rnF (mPf (M 0) R P (mK (M 0) R P)) (tkM (M 0) R P (mK (M 0) R P)) P) 1) + (1 : Int32)))) 9 E2) 10 (mcR (M 0) R P (M 10) 6))) rfl dX6_plays_192 (fun H locs hP hD hS => ?_)
                refine lv_aload_n hx hb dX6_plays_193 rfl (lv_at hl 1 rfl) ?_
                refine xw_Sv (As := [.ref (a 0)]) (rest := []) (wc := [((a 0), aI K 190 (upd (rnF (mPf (M 0) R P (mK (M 0) R P)) (tkM (M 0) R P (mK (M 0) R P)) P) 1 (((rnF (mPf (M 0) R P (mK (M 0) R P)) (tkM (M 0) R P (mK (M 0) R P)) P) 1) + (1 : Int32))))]) (wr := (List.filterMap (fun i => (mw K h a (hrow (hrow (hrow M 0 (upd (rnF (mPf (M 0) R P (mK (M 0) R P)) (tkM (M 0) R P (mK (M 0) R P)) P) 1 (((rnF (mPf (M 0) R P (mK (M 0) R P)) (tkM (M 0) R P (mK (M 0) R P)) P) 1) + (1 : Int32)))) 9 E2) 10 (mcR (M 0) R P (M 10) 6)) : va_W)[i]?) ([0, 2, 3, 4, 5, 6, 7, 8, 9] : List Nat))) ⟨hx, hb, hml, hown, hts⟩ (c_X6_nextDay l K (a 0) (upd (rnF (mPf (M 0) R P (mK (M 0) R P)) (tkM (M 0) R P (mK (M 0) R P)) P) 1 (((rnF (mPf (M 0) R P (mK (M 0) R P)) (tkM (M 0) R P (mK (M 0) R P)) P) 1) + (1 : Int32))) H.size) (va_cwS 1 hts gX6_plays_X6_nextDay rfl rfl rfl (by decide +kernel) ⟨Nat.le_of_ble_eq_true rfl, Nat.le_of_ble_eq_true rfl⟩) hK hP hD hS hA [1] [0, 2, 3, 4, 5, 6, 7, 8, 9] [0, 9, 1, 2, 3, 4, 5, 6, 7, 8] rfl rfl rfl (fun _u => mw K h a (hrow (hrow (hrow M 0 (mNx (upd (rnF (mPf (M 0) R P (mK (M 0) R P)) (tkM (M 0) R P (mK (M 0) R P)) P) 1 (((rnF (mPf (M 0) R P (mK (M 0) R P)) (tkM (M 0) R P (mK (M 0) R P)) P) 1) + (1 : Int32))))) 9 E2) 10 (mcR (M 0) R P (M 10) 6))) (fun _ => rfl) rfl hl.1 rfl (Nat.le_of_ble_eq_true rfl) (Nat.le_of_ble_eq_true rfl) (Nat.le_of_ble_eq_true rfl) dX6_plays_194 (fun _ H locs hq194 hP hD hS => ?_)
                have hP : va_P K.1 vwCl (mw K h a (hrow (hrow (hrow M 0 (mNx (upd (rnF (mPf (M 0) R P (mK (M 0) R P)) (tkM (M 0) R P (mK (M 0) R P)) P) 1 (((rnF (mPf (M 0) R P (mK (M 0) R P)) (tkM (M 0) R P (mK (M 0) R P)) P) 1) + (1 : Int32))))) 9 E2) 10 (mcR (M 0) R P (M 10) 6))) H := hP
                have hD : va_D A (mw K h a (hrow (hrow (hrow M 0 (mNx (upd (rnF (mPf (M 0) R P (mK (M 0) R P)) (tkM (M 0) R P (mK (M 0) R P)) P) 1 (((rnF (mPf (M 0) R P (mK (M 0) R P)) (tkM (M 0) R P (mK (M 0) R P)) P) 1) + (1 : Int32))))) 9 E2) 10 (mcR (M 0) R P (M 10) 6))) := hD
                refine lv_iload_n hx hb dX6_plays_197 rfl (lv_at hl 2 rfl) ?_
                refine lv_if_ge (tgt := 205) hx hb dX6_plays_198 (by decide) (fun c_198 => ?_) (fun c_198 => ?_)
                · skip
                  have c_198n := Int32.not_lt.mpr c_198
                  refine lv_iload_n hx hb dX6_plays_205 rfl (lv_at hl 3 rfl) ?_
                  have eR1 : (mNx (upd (rnF (mPf (M 0) R P (mK (M 0) R P)) (tkM (M 0) R P (mK (M 0) R P)) P) 1 (((rnF (mPf (M 0) R P (mK (M 0) R P)) (tkM (M 0) R P (mK (M 0) R P)) P) 1) + (1 : Int32)))) = mPlay (M 0) R P := by (unfold mPlay; first | rw [if_pos c_180n] | rw [if_neg c_180n])
                  rw [eR1] at hP hD
                  exact hend _ _ _ _ _ _ _ E2 hP hD hS (Nat.le_of_ble_eq_true rfl) (Nat.le_of_ble_eq_true rfl) (by (unfold mPaid; first | exact absurd c_180n c_198n | exact absurd c_198n c_180n | rw [if_pos c_198n] | (rw [if_neg c_198n]; unfold mK; rw [if_neg c_198n]))) dX6_plays_206
                · skip
                  have c_198n := Int32.not_le.mp c_198
                  refine lv_iconst (v := (-1 : Int32)) hx hb dX6_plays_201 (by decide) ?_
                  refine lv_goto (tgt := 206) hx hb dX6_plays_202 (by decide) ?_
                  have eR2 : (mNx (upd (rnF (mPf (M 0) R P (mK (M 0) R P)) (tkM (M 0) R P (mK (M 0) R P)) P) 1 (((rnF (mPf (M 0) R P (mK (M 0) R P)) (tkM (M 0) R P (mK (M 0) R P)) P) 1) + (1 : Int32)))) = mPlay (M 0) R P := by (unfold mPlay; first | rw [if_pos c_180n] | rw [if_neg c_180n])
                  rw [eR2] at hP hD
                  exact hend _ _ _ _ _ _ _ E2 hP hD hS (Nat.le_of_ble_eq_true rfl) (Nat.le_of_ble_eq_true rfl) (by (unfold mPaid; first | exact absurd c_180n c_198n | exact absurd c_198n c_180n | rw [if_pos c_198n] | (rw [if_neg c_198n]; unfold mK; rw [if_neg c_198n]))) dX6_plays_206
              · skip
                have c_180n := Int32.not_le.mp c_180
                refine lv_iconst (v := (2 : Int32)) hx hb dX6_plays_183 (by decide) ?_
                refine lv_goto (tgt := 188) hx hb dX6_plays_184 (by decide) ?_
                refine lv_dup2_11 hx hb dX6_plays_188 rfl rfl ?_
                refine xi_ld hx hb hK hP 1 (f := (rnF (mPf (M 0) R P (mK (M 0) R P)) (tkM (M 0) R P (mK (M 0) R P)) P)) rfl 2 rfl (by omega) (by decide) dX6_plays_189 ?_
                refine lv_iconst (v := (1 : Int32)) hx hb dX6_plays_190 (by decide) ?_
                refine lv_iadd hx hb dX6_plays_191 ?_
                refine xi_st hx hb hK hP hD hS 1 (f := (rnF (mPf (M 0) R P (mK (M 0) R P)) (tkM (M 0) R P (mK (M 0) R P)) P)) rfl 2 rfl (by omega) (by decide) (mw K h a (hrow (hrow (hrow M 0 (upd (rnF (mPf (M 0) R P (mK (M 0) R P)) (tkM (M 0) R P (mK (M 0) R P)) P) 2 (((rnF (mPf (M 0) R P (mK (M 0) R P)) (tkM (M 0) R P (mK (M 0) R P)) P) 2) + (1 : Int32)))) 9 E2) 10 (mcR (M 0) R P (M 10) 6))) rfl dX6_plays_192 (fun H locs hP hD hS => ?_)
                refine lv_aload_n hx hb dX6_plays_193 rfl (lv_at hl 1 rfl) ?_
                refine xw_Sv (As := [.ref (a 0)]) (rest := []) (wc := [((a 0), aI K 190 (upd (rnF (mPf (M 0) R P (mK (M 0) R P)) (tkM (M 0) R P (mK (M 0) R P)) P) 2 (((rnF (mPf (M 0) R P (mK (M 0) R P)) (tkM (M 0) R P (mK (M 0) R P)) P) 2) + (1 : Int32))))]) (wr := (List.filterMap (fun i => (mw K h a (hrow (hrow (hrow M 0 (upd (rnF (mPf (M 0) R P (mK (M 0) R P)) (tkM (M 0) R P (mK (M 0) R P)) P) 2 (((rnF (mPf (M 0) R P (mK (M 0) R P)) (tkM (M 0) R P (mK (M 0) R P)) P) 2) + (1 : Int32)))) 9 E2) 10 (mcR (M 0) R P (M 10) 6)) : va_W)[i]?) ([0, 2, 3, 4, 5, 6, 7, 8, 9] : List Nat))) ⟨hx, hb, hml, hown, hts⟩ (c_X6_nextDay l K (a 0) (upd (rnF (mPf (M 0) R P (mK (M 0) R P)) (tkM (M 0) R P (mK (M 0) R P)) P) 2 (((rnF (mPf (M 0) R P (mK (M 0) R P)) (tkM (M 0) R P (mK (M 0) R P)) P) 2) + (1 : Int32))) H.size) (va_cwS 1 hts gX6_plays_X6_nextDay rfl rfl rfl (by decide +kernel) ⟨Nat.le_of_ble_eq_true rfl, Nat.le_of_ble_eq_true rfl⟩) hK hP hD hS hA [1] [0, 2, 3, 4, 5, 6, 7, 8, 9] [0, 9, 1, 2, 3, 4, 5, 6, 7, 8] rfl rfl rfl (fun _u => mw K h a (hrow (hrow (hrow M 0 (mNx (upd (rnF (mPf (M 0) R P (mK (M 0) R P)) (tkM (M 0) R P (mK (M 0) R P)) P) 2 (((rnF (mPf (M 0) R P (mK (M 0) R P)) (tkM (M 0) R P (mK (M 0) R P)) P) 2) + (1 : Int32))))) 9 E2) 10 (mcR (M 0) R P (M 10) 6))) (fun _ => rfl) rfl hl.1 rfl (Nat.le_of_ble_eq_true rfl) (Nat.le_of_ble_eq_true rfl) (Nat.le_of_ble_eq_true rfl) dX6_plays_194 (fun _ H locs hq194 hP hD hS => ?_)
                have hP : va_P K.1 vwCl (mw K h a (hrow (hrow (hrow M 0 (mNx (upd (rnF (mPf (M 0) R P (mK (M 0) R P)) (tkM (M 0) R P (mK (M 0) R P)) P) 2 (((rnF (mPf (M 0) R P (mK (M 0) R P)) (tkM (M 0) R P (mK (M 0) R P)) P) 2) + (1 : Int32))))) 9 E2) 10 (mcR (M 0) R P (M 10) 6))) H := hP
                have hD : va_D A (mw K h a (hrow (hrow (hrow M 0 (mNx (upd (rnF (mPf (M 0) R P (mK (M 0) R P)) (tkM (M 0) R P (mK (M 0) R P)) P) 2 (((rnF (mPf (M 0) R P (mK (M 0) R P)) (tkM (M 0) R P (mK (M 0) R P)) P) 2) + (1 : Int32))))) 9 E2) 10 (mcR (M 0) R P (M 10) 6))) := hD
                refine lv_iload_n hx hb dX6_plays_197 rfl (lv_at hl 2 rfl) ?_
                refine lv_if_ge (tgt := 205) hx hb dX6_plays_198 (by decide) (fun c_198 => ?_) (fun c_198 => ?_)
                · skip
                  have c_198n := Int32.not_lt.mpr c_198
                  refine lv_iload_n hx hb dX6_plays_205 rfl (lv_at hl 3 rfl) ?_
                  have eR3 : (mNx (upd (rnF (mPf (M 0) R P (mK (M 0) R P)) (tkM (M 0) R P (mK (M 0) R P)) P) 2 (((rnF (mPf (M 0) R P (mK (M 0) R P)) (tkM (M 0) R P (mK (M 0) R P)) P) 2) + (1 : Int32)))) = mPlay (M 0) R P := by (unfold mPlay; first | rw [if_pos c_180n] | rw [if_neg c_180n])
                  rw [eR3] at hP hD
                  exact hend _ _ _ _ _ _ _ E2 hP hD hS (Nat.le_of_ble_eq_true rfl) (Nat.le_of_ble_eq_true rfl) (by (unfold mPaid; first | exact absurd c_180n c_198n | exact absurd c_198n c_180n | rw [if_pos c_198n] | (rw [if_neg c_198n]; unfold mK; rw [if_neg c_198n]))) dX6_plays_206
                · skip
                  have c_198n := Int32.not_le.mp c_198
                  refine lv_iconst (v := (-1 : Int32)) hx hb dX6_plays_201 (by decide) ?_
                  refine lv_goto (tgt := 206) hx hb dX6_plays_202 (by decide) ?_
                  have eR4 : (mNx (upd (rnF (mPf (M 0) R P (mK (M 0) R P)) (tkM (M 0) R P (mK (M 0) R P)) P) 2 (((rnF (mPf (M 0) R P (mK (M 0) R P)) (tkM (M 0) R P (mK (M 0) R P)) P) 2) + (1 : Int32)))) = mPlay (M 0) R P := by (unfold mPlay; first | rw [if_pos c_180n] | rw [if_neg c_180n])
                  rw [eR4] at hP hD
                  exact hend _ _ _ _ _ _ _ E2 hP hD hS (Nat.le_of_ble_eq_true rfl) (Nat.le_of_ble_eq_true rfl) (by (unfold mPaid; first | exact absurd c_180n c_198n | exact absurd c_198n c_180n | rw [if_pos c_198n] | (rw [if_neg c_198n]; unfold mK; rw [if_neg c_198n]))) dX6_plays_206
            · skip
              refine lv_aload_n hx hb dX6_plays_141 rfl (lv_at hl 1 rfl) ?_
              refine lv_bipush (v := (40 : Int32)) hx hb dX6_plays_142 (by decide) ?_
              refine lv_iload hx hb dX6_plays_144 (lv_at hl 5 rfl) ?_
              refine lv_iadd hx hb dX6_plays_146 ?_
              refine lv_iload hx hb dX6_plays_147 (lv_at hl 4 rfl) ?_
              refine lv_iload hx hb dX6_plays_149 (lv_at hl 5 rfl) ?_
              refine lv_ishr hx hb dX6_plays_151 ?_
              refine lv_iconst (v := (1 : Int32)) hx hb dX6_plays_152 (by decide) ?_
              refine lv_iand hx hb dX6_plays_153 ?_
              refine lv_iconst (v := (1 : Int32)) hx hb dX6_plays_154 (by decide) ?_
              refine lv_icmp_ne (tgt := 170) hx hb dX6_plays_155 (by decide) (fun c_155 => ?_) (fun c_155 => ?_)
              · skip
                refine lv_iconst (v := (0 : Int32)) hx hb dX6_plays_170 (by decide) ?_
                refine xi_st hx hb hK hP hD hS 1 (f := (rnF (mPf (M 0) R P (mK (M 0) R P)) (tkM (M 0) R P (mK (M 0) R P)) p)) rfl (40 + p) (nn_add rfl rfl) (by omega) (by decide) (mw K h a (hrow (hrow (hrow M 0 (upd (rnF (mPf (M 0) R P (mK (M 0) R P)) (tkM (M 0) R P (mK (M 0) R P)) p) (40 + p) (0 : Int32))) 9 E2) 10 (mcR (M 0) R P (M 10) 6))) rfl dX6_plays_171 (fun H locs hP hD hS => ?_)
                refine lv_iinc (v := nI (p + 1)) (lv' := [(5, .int (nI (p + 1))), (0, .ref h), (1, .ref (a 0)), (2, .int (mStr (M 0) R P)), (3, .int (mPd (M 0) R P (mK (M 0) R P))), (4, .int (nI (tkM (M 0) R P (mK (M 0) R P))))]) hx hb dX6_plays_172 hl (k := 5) rfl (nI_1 _) (by decide) rfl (fun ls hl => ?_)
                refine lv_goto (tgt := 133) hx hb dX6_plays_175 (by decide) ?_
                have eR5 : (upd (rnF (mPf (M 0) R P (mK (M 0) R P)) (tkM (M 0) R P (mK (M 0) R P)) p) (40 + p) (0 : Int32)) = rnF (mPf (M 0) R P (mK (M 0) R P)) (tkM (M 0) R P (mK (M 0) R P)) (p + 1) := by first | exact rn_s (by rw [if_pos ((isIn_iff (by omega) (by omega)).mp c_155), rn_k]) | exact rn_s (by rw [if_neg (fun z => c_155 ((isIn_iff (by omega) (by omega)).mpr z))])
                rw [eR5] at hP hD
                have hP : va_P K.1 vwCl (mw K h a (hrow (hrow (hrow M 0 (rnF (mPf (M 0) R P (mK (M 0) R P)) (tkM (M 0) R P (mK (M 0) R P)) (p + 1))) 9 E2) 10 (mcR (M 0) R P (M 10) 6))) H := hP
                have hD : va_D A (mw K h a (hrow (hrow (hrow M 0 (rnF (mPf (M 0) R P (mK (M 0) R P)) (tkM (M 0) R P (mK (M 0) R P)) (p + 1))) 9 E2) 10 (mcR (M 0) R P (M 10) 6))) := hD
                exact ih133 (p + 1) _ _ _ (by omega) (by first | omega | assumption | first | rfl | (simp [c_19, c_138, c_155]; done) | omega) hP hD hS (lv_cons (lv_at hl 1 rfl) (lv_cons (lv_at hl 2 rfl) (lv_cons (lv_at hl 3 rfl) (lv_cons (lv_at hl 4 rfl) (lv_cons (lv_at hl 5 rfl) (lv_cons (lv_at hl 0 rfl) (lv_nil hl)))))))
              · skip
                refine lv_aload_n hx hb dX6_plays_158 rfl (lv_at hl 1 rfl) ?_
                refine lv_bipush (v := (40 : Int32)) hx hb dX6_plays_159 (by decide) ?_
                refine lv_iload hx hb dX6_plays_161 (lv_at hl 5 rfl) ?_
                refine lv_iadd hx hb dX6_plays_163 ?_
                refine xi_ld hx hb hK hP 1 (f := (rnF (mPf (M 0) R P (mK (M 0) R P)) (tkM (M 0) R P (mK (M 0) R P)) p)) rfl (40 + p) (nn_add rfl rfl) (by omega) (by decide) dX6_plays_164 ?_
                refine lv_iconst (v := (1 : Int32)) hx hb dX6_plays_165 (by decide) ?_
                refine lv_iadd hx hb dX6_plays_166 ?_
                refine lv_goto (tgt := 171) hx hb dX6_plays_167 (by decide) ?_
                refine xi_st hx hb hK hP hD hS 1 (f := (rnF (mPf (M 0) R P (mK (M 0) R P)) (tkM (M 0) R P (mK (M 0) R P)) p)) rfl (40 + p) (nn_add rfl rfl) (by omega) (by decide) (mw K h a (hrow (hrow (hrow M 0 (upd (rnF (mPf (M 0) R P (mK (M 0) R P)) (tkM (M 0) R P (mK (M 0) R P)) p) (40 + p) (((rnF (mPf (M 0) R P (mK (M 0) R P)) (tkM (M 0) R P (mK (M 0) R P)) p) (40 + p)) + (1 : Int32)))) 9 E2) 10 (mcR (M 0) R P (M 10) 6))) rfl dX6_plays_171 (fun H locs hP hD hS => ?_)
                refine lv_iinc (v := nI (p + 1)) (lv' := [(5, .int (nI (p + 1))), (0, .ref h), (1, .ref (a 0)), (2, .int (mStr (M 0) R P)), (3, .int (mPd (M 0) R P (mK (M 0) R P))), (4, .int (nI (tkM (M 0) R P (mK (M 0) R P))))]) hx hb dX6_plays_172 hl (k := 5) rfl (nI_1 _) (by decide) rfl (fun ls hl => ?_)
                refine lv_goto (tgt := 133) hx hb dX6_plays_175 (by decide) ?_
                have eR6 : (upd (rnF (mPf (M 0) R P (mK (M 0) R P)) (tkM (M 0) R P (mK (M 0) R P)) p) (40 + p) (((rnF (mPf (M 0) R P (mK (M 0) R P)) (tkM (M 0) R P (mK (M 0) R P)) p) (40 + p)) + (1 : Int32))) = rnF (mPf (M 0) R P (mK (M 0) R P)) (tkM (M 0) R P (mK (M 0) R P)) (p + 1) := by first | exact rn_s (by rw [if_pos ((isIn_iff (by omega) (by omega)).mp c_155), rn_k]) | exact rn_s (by rw [if_neg (fun z => c_155 ((isIn_iff (by omega) (by omega)).mpr z))])
                rw [eR6] at hP hD
                have hP : va_P K.1 vwCl (mw K h a (hrow (hrow (hrow M 0 (rnF (mPf (M 0) R P (mK (M 0) R P)) (tkM (M 0) R P (mK (M 0) R P)) (p + 1))) 9 E2) 10 (mcR (M 0) R P (M 10) 6))) H := hP
                have hD : va_D A (mw K h a (hrow (hrow (hrow M 0 (rnF (mPf (M 0) R P (mK (M 0) R P)) (tkM (M 0) R P (mK (M 0) R P)) (p + 1))) 9 E2) 10 (mcR (M 0) R P (M 10) 6))) := hD
                exact ih133 (p + 1) _ _ _ (by omega) (by first | omega | assumption | first | rfl | (simp [c_19, c_138, c_155]; done) | omega) hP hD hS (lv_cons (lv_at hl 1 rfl) (lv_cons (lv_at hl 2 rfl) (lv_cons (lv_at hl 3 rfl) (lv_cons (lv_at hl 4 rfl) (lv_cons (lv_at hl 5 rfl) (lv_cons (lv_at hl 0 rfl) (lv_nil hl)))))))
        have eR7 : (mPf (M 0) R P (mK (M 0) R P)) = rnF (mPf (M 0) R P (mK (M 0) R P)) (tkM (M 0) R P (mK (M 0) R P)) 0 := by exact rn_0 _ _
        have hP : va_P K.1 vwCl (mw K h a (hrow (hrow (hrow M 0 (rnF (mPf (M 0) R P (mK (M 0) R P)) (tkM (M 0) R P (mK (M 0) R P)) 0)) 9 E2) 10 (mcR (M 0) R P (M 10) 6))) H := by rw [← eR7]; exact hP
        have hD : va_D A (mw K h a (hrow (hrow (hrow M 0 (rnF (mPf (M 0) R P (mK (M 0) R P)) (tkM (M 0) R P (mK (M 0) R P)) 0)) 9 E2) 10 (mcR (M 0) R P (M 10) 6))) := by rw [← eR7]; exact hD
        have hP : va_P K.1 vwCl (mw K h a (hrow (hrow (hrow M 0 (rnF (mPf (M 0) R P (mK (M 0) R P)) (tkM (M 0) R P (mK (M 0) R P)) 0)) 9 E2) 10 (mcR (M 0) R P (M 10) 6))) H := hP
        have hD : va_D A (mw K h a (hrow (hrow (hrow M 0 (rnF (mPf (M 0) R P (mK (M 0) R P)) (tkM (M 0) R P (mK (M 0) R P)) 0)) 9 E2) 10 (mcR (M 0) R P (M 10) 6))) := hD
        exact lp133 _ 0 _ _ _ (Nat.lt_succ_self _) (by first | omega | assumption | first | rfl | (simp [c_19]; done) | omega) hP hD hS (lv_cons (lv_at hl 1 rfl) (lv_cons (lv_at hl 2 rfl) (lv_cons (lv_at hl 3 rfl) (lv_cons (lv_at hl 4 rfl) (lv_cons (lv_at hl 5 rfl) (lv_cons (lv_is (lv_at hl 0 rfl) (show (0 : Int32) = nI 0 by first | rfl | (simp [c_19]; done) | omega)) (lv_nil hl)))))))
      · skip
        refine lv_iload_n hx hb dX6_plays_22 rfl (lv_at hl 2 rfl) ?_
        refine lv_if_lt (tgt := 130) hx hb dX6_plays_23 (by decide) (fun c_23 => ?_) (fun c_23 => ?_)
        · skip
          have c_23n := Int32.not_le.mpr c_23
          have hk9 : mK (M 0) R P = k := (show k = mK (M 0) R P from mK_2 hs0 c_23).symm
          subst hk9
          refine lv_iconst (v := (0 : Int32)) hx hb dX6_plays_130 (by decide) ?_
          refine lv_istore (lv' := [(5, .int (0 : Int32)), (0, .ref h), (1, .ref (a 0)), (2, .int (mStr (M 0) R P)), (3, .int (mPd (M 0) R P (mK (M 0) R P))), (4, .int (nI (tkM (M 0) R P (mK (M 0) R P))))]) hx hb dX6_plays_131 hl (by decide) rfl (fun ls hl => ?_)
          have lp133 : ∀ (n9 : Nat) (p : Nat) (H : Heap) (locs : List Loc) (ls : Array Slot), P - p < n9 → (p ≤ P) → va_P K.1 vwCl (mw K h a (hrow (hrow (hrow M 0 (rnF (mPf (M 0) R P (mK (M 0) R P)) (tkM (M 0) R P (mK (M 0) R P)) p)) 9 E2) 10 (mcR (M 0) R P (M 10) 6))) H → va_D A (mw K h a (hrow (hrow (hrow M 0 (rnF (mPf (M 0) R P (mK (M 0) R P)) (tkM (M 0) R P (mK (M 0) R P)) p)) 9 E2) 10 (mcR (M 0) R P (M 10) 6))) → va_S A s9.heap H locs → lv_has ls 8 [(0, .ref h), (1, .ref (a 0)), (2, .int (mStr (M 0) R P)), (3, .int (mPd (M 0) R P (mK (M 0) R P))), (4, .int (nI (tkM (M 0) R P (mK (M 0) R P)))), (5, .int (nI p))] → W p9 l e9 rm_X6_plays_n s9 m9 av9 below9 meth9 c9 H locs 0 0 Q9 (F0 m9 133 ls []) := by
            intro n9
            induction n9 with
            | zero => intro p H locs ls hmu hp9 hP hD hS hl; exact absurd hmu (Nat.not_lt_zero _)
            | succ n9 ih133 =>
              intro p H locs ls hmu hp9 hP hD hS hl
              have htk := tkM_lt (N := (M 0)) (R := R) hP0b (mK (M 0) R P)
              have hpw := pw_le hP0b
              refine lv_iload hx hb dX6_plays_133 (lv_at hl 5 rfl) ?_
              refine lv_aload_n hx hb dX6_plays_135 rfl (lv_at hl 1 rfl) ?_
              refine lv_iconst (v := (4 : Int32)) hx hb dX6_plays_136 (by decide) ?_
              refine xi_ld hx hb hK hP 1 (f := (rnF (mPf (M 0) R P (mK (M 0) R P)) (tkM (M 0) R P (mK (M 0) R P)) p)) rfl 4 rfl (by omega) (by decide) dX6_plays_137 ?_
              refine xn_icmp_ge (tgt := 178) hx hb p P rfl (km_rn (by decide) (km_pf (by decide) hP0)) (by omega) (by omega) dX6_plays_138 (by decide) (fun c_138 => ?_) (fun c_138 => ?_)
              · skip
                have hp9 : P = p := (show p = P from by omega).symm
                subst hp9
                refine lv_aload_n hx hb dX6_plays_178 rfl (lv_at hl 1 rfl) ?_
                refine lv_iload_n hx hb dX6_plays_179 rfl (lv_at hl 2 rfl) ?_
                refine lv_if_ge (tgt := 187) hx hb dX6_plays_180 (by decide) (fun c_180 => ?_) (fun c_180 => ?_)
                · skip
                  have c_180n := Int32.not_lt.mpr c_180
                  refine lv_iconst (v := (1 : Int32)) hx hb dX6_plays_187 (by decide) ?_
                  refine lv_dup2_11 hx hb dX6_plays_188 rfl rfl ?_
                  refine xi_ld hx hb hK hP 1 (f := (rnF (mPf (M 0) R P (mK (M 0) R P)) (tkM (M 0) R P (mK (M 0) R P)) P)) rfl 1 rfl (by omega) (by decide) dX6_plays_189 ?_
                  refine lv_iconst (v := (1 : Int32)) hx hb dX6_plays_190 (by decide) ?_
                  refine lv_iadd hx hb dX6_plays_191 ?_
                  refine xi_st hx hb hK hP hD hS 1 (f := (rnF (mPf (M 0) R P (mK (M 0) R P)) (tkM (M 0) R P (mK (M 0) R P)) P)) rfl 1 rfl (by omega) (by decide) (mw K h a (hrow (hrow (hrow M 0 (upd (rnF (mPf (M 0) R P (mK (M 0) R P)) (tkM (M 0) R P (mK (M 0) R P)) P) 1 (((rnF (mPf (M 0) R P (mK (M 0) R P)) (tkM (M 0) R P (mK (M 0) R P)) P) 1) + (1 : Int32)))) 9 E2) 10 (mcR (M 0) R P (M 10) 6))) rfl dX6_plays_192 (fun H locs hP hD hS => ?_)
                  refine lv_aload_n hx hb dX6_plays_193 rfl (lv_at hl 1 rfl) ?_
                  refine xw_Sv (As := [.ref (a 0)]) (rest := []) (wc := [((a 0), aI K 190 (upd (rnF (mPf (M 0) R P (mK (M 0) R P)) (tkM (M 0) R P (mK (M 0) R P)) P) 1 (((rnF (mPf (M 0) R P (mK (M 0) R P)) (tkM (M 0) R P (mK (M 0) R P)) P) 1) + (1 : Int32))))]) (wr := (List.filterMap (fun i => (mw K h a (hrow (hrow (hrow M 0 (upd (rnF (mPf (M 0) R P (mK (M 0) R P)) (tkM (M 0) R P (mK (M 0) R P)) P) 1 (((rnF (mPf (M 0) R P (mK (M 0) R P)) (tkM (M 0) R P (mK (M 0) R P)) P) 1) + (1 : Int32)))) 9 E2) 10 (mcR (M 0) R P (M 10) 6)) : va_W)[i]?) ([0, 2, 3, 4, 5, 6, 7, 8, 9] : List Nat))) ⟨hx, hb, hml, hown, hts⟩ (c_X6_nextDay l K (a 0) (upd (rnF (mPf (M 0) R P (mK (M 0) R P)) (tkM (M 0) R P (mK (M 0) R P)) P) 1 (((rnF (mPf (M 0) R P (mK (M 0) R P)) (tkM (M 0) R P (mK (M 0) R P)) P) 1) + (1 : Int32))) H.size) (va_cwS 1 hts gX6_plays_X6_nextDay rfl rfl rfl (by decide +kernel) ⟨Nat.le_of_ble_eq_true rfl, Nat.le_of_ble_eq_true rfl⟩) hK hP hD hS hA [1] [0, 2, 3, 4, 5, 6, 7, 8, 9] [0, 9, 1, 2, 3, 4, 5, 6, 7, 8] rfl rfl rfl (fun _u => mw K h a (hrow (hrow (hrow M 0 (mNx (upd (rnF (mPf (M 0) R P (mK (M 0) R P)) (tkM (M 0) R P (mK (M 0) R P)) P) 1 (((rnF (mPf (M 0) R P (mK (M 0) R P)) (tkM (M 0) R P (mK (M 0) R P)) P) 1) + (1 : Int32))))) 9 E2) 10 (mcR (M 0) R P (M 10) 6))) (fun _ => rfl) rfl hl.1 rfl (Nat.le_of_ble_eq_true rfl) (Nat.le_of_ble_eq_true rfl) (Nat.le_of_ble_eq_true rfl) dX6_plays_194 (fun _ H locs hq194 hP hD hS => ?_)
                  have hP : va_P K.1 vwCl (mw K h a (hrow (hrow (hrow M 0 (mNx (upd (rnF (mPf (M 0) R P (mK (M 0) R P)) (tkM (M 0) R P (mK (M 0) R P)) P) 1 (((rnF (mPf (M 0) R P (mK (M 0) R P)) (tkM (M 0) R P (mK (M 0) R P)) P) 1) + (1 : Int32))))) 9 E2) 10 (mcR (M 0) R P (M 10) 6))) H := hP
                  have hD : va_D A (mw K h a (hrow (hrow (hrow M 0 (mNx (upd (rnF (mPf (M 0) R P (mK (M 0) R P)) (tkM (M 0) R P (mK (M 0) R P)) P) 1 (((rnF (mPf (M 0) R P (mK (M 0) R P)) (tkM (M 0) R P (mK (M 0) R P)) P) 1) + (1 : Int32))))) 9 E2) 10 (mcR (M 0) R P (M 10) 6))) := hD
                  refine lv_iload_n hx hb dX6_plays_197 rfl (lv_at hl 2 rfl) ?_
                  refine lv_if_ge (tgt := 205) hx hb dX6_plays_198 (by decide) (fun c_198 => ?_) (fun c_198 => ?_)
                  · skip
                    have c_198n := Int32.not_lt.mpr c_198
                    refine lv_iload_n hx hb dX6_plays_205 rfl (lv_at hl 3 rfl) ?_
                    have eR8 : (mNx (upd (rnF (mPf (M 0) R P (mK (M 0) R P)) (tkM (M 0) R P (mK (M 0) R P)) P) 1 (((rnF (mPf (M 0) R P (mK (M 0) R P)) (tkM (M 0) R P (mK (M 0) R P)) P) 1) + (1 : Int32)))) = mPlay (M 0) R P := by (unfold mPlay; first | rw [if_pos c_180n] | rw [if_neg c_180n])
                    rw [eR8] at hP hD
                    exact hend _ _ _ _ _ _ _ E2 hP hD hS (Nat.le_of_ble_eq_true rfl) (Nat.le_of_ble_eq_true rfl) (by (unfold mPaid; first | exact absurd c_180n c_198n | exact absurd c_198n c_180n | rw [if_pos c_198n] | (rw [if_neg c_198n]; unfold mK; rw [if_neg c_198n]))) dX6_plays_206
                  · skip
                    have c_198n := Int32.not_le.mp c_198
                    refine lv_iconst (v := (-1 : Int32)) hx hb dX6_plays_201 (by decide) ?_
                    refine lv_goto (tgt := 206) hx hb dX6_plays_202 (by decide) ?_
                    have eR9 : (mNx (upd (rnF (mPf (M 0) R P (mK (M 0) R P)) (tkM (M 0) R P (mK (M 0) R P)) P) 1 (((rnF (mPf (M 0) R P (mK (M 0) R P)) (tkM (M 0) R P (mK (M 0) R P)) P) 1) + (1 : Int32)))) = mPlay (M 0) R P := by (unfold mPlay; first | rw [if_pos c_180n] | rw [if_neg c_180n])
                    rw [eR9] at hP hD
                    exact hend _ _ _ _ _ _ _ E2 hP hD hS (Nat.le_of_ble_eq_true rfl) (Nat.le_of_ble_eq_true rfl) (by (unfold mPaid; first | exact absurd c_180n c_198n | exact absurd c_198n c_180n | rw [if_pos c_198n] | (rw [if_neg c_198n]; unfold mK; rw [if_neg c_198n]))) dX6_plays_206
                · skip
                  have c_180n := Int32.not_le.mp c_180
                  refine lv_iconst (v := (2 : Int32)) hx hb dX6_plays_183 (by decide) ?_
                  refine lv_goto (tgt := 188) hx hb dX6_plays_184 (by decide) ?_
                  refine lv_dup2_11 hx hb dX6_plays_188 rfl rfl ?_
                  refine xi_ld hx hb hK hP 1 (f := (rnF (mPf (M 0) R P (mK (M 0) R P)) (tkM (M 0) R P (mK (M 0) R P)) P)) rfl 2 rfl (by omega) (by decide) dX6_plays_189 ?_
                  refine lv_iconst (v := (1 : Int32)) hx hb dX6_plays_190 (by decide) ?_
                  refine lv_iadd hx hb dX6_plays_191 ?_
                  refine xi_st hx hb hK hP hD hS 1 (f := (rnF (mPf (M 0) R P (mK (M 0) R P)) (tkM (M 0) R P (mK (M 0) R P)) P)) rfl 2 rfl (by omega) (by decide) (mw K h a (hrow (hrow (hrow M 0 (upd (rnF (mPf (M 0) R P (mK (M 0) R P)) (tkM (M 0) R P (mK (M 0) R P)) P) 2 (((rnF (mPf (M 0) R P (mK (M 0) R P)) (tkM (M 0) R P (mK (M 0) R P)) P) 2) + (1 : Int32)))) 9 E2) 10 (mcR (M 0) R P (M 10) 6))) rfl dX6_plays_192 (fun H locs hP hD hS => ?_)
                  refine lv_aload_n hx hb dX6_plays_193 rfl (lv_at hl 1 rfl) ?_
                  refine xw_Sv (As := [.ref (a 0)]) (rest := []) (wc := [((a 0), aI K 190 (upd (rnF (mPf (M 0) R P (mK (M 0) R P)) (tkM (M 0) R P (mK (M 0) R P)) P) 2 (((rnF (mPf (M 0) R P (mK (M 0) R P)) (tkM (M 0) R P (mK (M 0) R P)) P) 2) + (1 : Int32))))]) (wr := (List.filterMap (fun i => (mw K h a (hrow (hrow (hrow M 0 (upd (rnF (mPf (M 0) R P (mK (M 0) R P)) (tkM (M 0) R P (mK (M 0) R P)) P) 2 (((rnF (mPf (M 0) R P (mK (M 0) R P)) (tkM (M 0) R P (mK (M 0) R P)) P) 2) + (1 : Int32)))) 9 E2) 10 (mcR (M 0) R P (M 10) 6)) : va_W)[i]?) ([0, 2, 3, 4, 5, 6, 7, 8, 9] : List Nat))) ⟨hx, hb, hml, hown, hts⟩ (c_X6_nextDay l K (a 0) (upd (rnF (mPf (M 0) R P (mK (M 0) R P)) (tkM (M 0) R P (mK (M 0) R P)) P) 2 (((rnF (mPf (M 0) R P (mK (M 0) R P)) (tkM (M 0) R P (mK (M 0) R P)) P) 2) + (1 : Int32))) H.size) (va_cwS 1 hts gX6_plays_X6_nextDay rfl rfl rfl (by decide +kernel) ⟨Nat.le_of_ble_eq_true rfl, Nat.le_of_ble_eq_true rfl⟩) hK hP hD hS hA [1] [0, 2, 3, 4, 5, 6, 7, 8, 9] [0, 9, 1, 2, 3, 4, 5, 6, 7, 8] rfl rfl rfl (fun _u => mw K h a (hrow (hrow (hrow M 0 (mNx (upd (rnF (mPf (M 0) R P (mK (M 0) R P)) (tkM (M 0) R P (mK (M 0) R P)) P) 2 (((rnF (mPf (M 0) R P (mK (M 0) R P)) (tkM (M 0) R P (mK (M 0) R P)) P) 2) + (1 : Int32))))) 9 E2) 10 (mcR (M 0) R P (M 10) 6))) (fun _ => rfl) rfl hl.1 rfl (Nat.le_of_ble_eq_true rfl) (Nat.le_of_ble_eq_true rfl) (Nat.le_of_ble_eq_true rfl) dX6_plays_194 (fun _ H locs hq194 hP hD hS => ?_)
                  have hP : va_P K.1 vwCl (mw K h a (hrow (hrow (hrow M 0 (mNx (upd (rnF (mPf (M 0) R P (mK (M 0) R P)) (tkM (M 0) R P (mK (M 0) R P)) P) 2 (((rnF (mPf (M 0) R P (mK (M 0) R P)) (tkM (M 0) R P (mK (M 0) R P)) P) 2) + (1 : Int32))))) 9 E2) 10 (mcR (M 0) R P (M 10) 6))) H := hP
                  have hD : va_D A (mw K h a (hrow (hrow (hrow M 0 (mNx (upd (rnF (mPf (M 0) R P (mK (M 0) R P)) (tkM (M 0) R P (mK (M 0) R P)) P) 2 (((rnF (mPf (M 0) R P (mK (M 0) R P)) (tkM (M 0) R P (mK (M 0) R P)) P) 2) + (1 : Int32))))) 9 E2) 10 (mcR (M 0) R P (M 10) 6))) := hD
                  refine lv_iload_n hx hb dX6_plays_197 rfl (lv_at hl 2 rfl) ?_
                  refine lv_if_ge (tgt := 205) hx hb dX6_plays_198 (by decide) (fun c_198 => ?_) (fun c_198 => ?_)
                  · skip
                    have c_198n := Int32.not_lt.mpr c_198
                    refine lv_iload_n hx hb dX6_plays_205 rfl (lv_at hl 3 rfl) ?_
                    have eR10 : (mNx (upd (rnF (mPf (M 0) R P (mK (M 0) R P)) (tkM (M 0) R P (mK (M 0) R P)) P) 2 (((rnF (mPf (M 0) R P (mK (M 0) R P)) (tkM (M 0) R P (mK (M 0) R P)) P) 2) + (1 : Int32)))) = mPlay (M 0) R P := by (unfold mPlay; first | rw [if_pos c_180n] | rw [if_neg c_180n])
                    rw [eR10] at hP hD
                    exact hend _ _ _ _ _ _ _ E2 hP hD hS (Nat.le_of_ble_eq_true rfl) (Nat.le_of_ble_eq_true rfl) (by (unfold mPaid; first | exact absurd c_180n c_198n | exact absurd c_198n c_180n | rw [if_pos c_198n] | (rw [if_neg c_198n]; unfold mK; rw [if_neg c_198n]))) dX6_plays_206
                  · skip
                    have c_198n := Int32.not_le.mp c_198
                    refine lv_iconst (v := (-1 : Int32)) hx hb dX6_plays_201 (by decide) ?_
                    refine lv_goto (tgt := 206) hx hb dX6_plays_202 (by decide) ?_
                    have eR11 : (mNx (upd (rnF (mPf (M 0) R P (mK (M 0) R P)) (tkM (M 0) R P (mK (M 0) R P)) P) 2 (((rnF (mPf (M 0) R P (mK (M 0) R P)) (tkM (M 0) R P (mK (M 0) R P)) P) 2) + (1 : Int32)))) = mPlay (M 0) R P := by (unfold mPlay; first | rw [if_pos c_180n] | rw [if_neg c_180n])
                    rw [eR11] at hP hD
                    exact hend _ _ _ _ _ _ _ E2 hP hD hS (Nat.le_of_ble_eq_true rfl) (Nat.le_of_ble_eq_true rfl) (by (unfold mPaid; first | exact absurd c_180n c_198n | exact absurd c_198n c_180n | rw [if_pos c_198n] | (rw [if_neg c_198n]; unfold mK; rw [if_neg c_198n]))) dX6_plays_206
              · skip
                refine lv_aload_n hx hb dX6_plays_141 rfl (lv_at hl 1 rfl) ?_
                refine lv_bipush (v := (40 : Int32)) hx hb dX6_plays_142 (by decide) ?_
                refine lv_iload hx hb dX6_plays_144 (lv_at hl 5 rfl) ?_
                refine lv_iadd hx hb dX6_plays_146 ?_
                refine lv_iload hx hb dX6_plays_147 (lv_at hl 4 rfl) ?_
                refine lv_iload hx hb dX6_plays_149 (lv_at hl 5 rfl) ?_
                refine lv_ishr hx hb dX6_plays_151 ?_
                refine lv_iconst (v := (1 : Int32)) hx hb dX6_plays_152 (by decide) ?_
                refine lv_iand hx hb dX6_plays_153 ?_
                refine lv_iconst (v := (1 : Int32)) hx hb dX6_plays_154 (by decide) ?_
                refine lv_icmp_ne (tgt := 170) hx hb dX6_plays_155 (by decide) (fun c_155 => ?_) (fun c_155 => ?_)
                · skip
                  refine lv_iconst (v := (0 : Int32)) hx hb dX6_plays_170 (by decide) ?_
                  refine xi_st hx hb hK hP hD hS 1 (f := (rnF (mPf (M 0) R P (mK (M 0) R P)) (tkM (M 0) R P (mK (M 0) R P)) p)) rfl (40 + p) (nn_add rfl rfl) (by omega) (by decide) (mw K h a (hrow (hrow (hrow M 0 (upd (rnF (mPf (M 0) R P (mK (M 0) R P)) (tkM (M 0) R P (mK (M 0) R P)) p) (40 + p) (0 : Int32))) 9 E2) 10 (mcR (M 0) R P (M 10) 6))) rfl dX6_plays_171 (fun H locs hP hD hS => ?_)
                  refine lv_iinc (v := nI (p + 1)) (lv' := [(5, .int (nI (p + 1))), (0, .ref h), (1, .ref (a 0)), (2, .int (mStr (M 0) R P)), (3, .int (mPd (M 0) R P (mK (M 0) R P))), (4, .int (nI (tkM (M 0) R P (mK (M 0) R P))))]) hx hb dX6_plays_172 hl (k := 5) rfl (nI_1 _) (by decide) rfl (fun ls hl => ?_)
                  refine lv_goto (tgt := 133) hx hb dX6_plays_175 (by decide) ?_
                  have eR12 : (upd (rnF (mPf (M 0) R P (mK (M 0) R P)) (tkM (M 0) R P (mK (M 0) R P)) p) (40 + p) (0 : Int32)) = rnF (mPf (M 0) R P (mK (M 0) R P)) (tkM (M 0) R P (mK (M 0) R P)) (p + 1) := by first | exact rn_s (by rw [if_pos ((isIn_iff (by omega) (by omega)).mp c_155), rn_k]) | exact rn_s (by rw [if_neg (fun z => c_155 ((isIn_iff (by omega) (by omega)).mpr z))])
                  rw [eR12] at hP hD
                  have hP : va_P K.1 vwCl (mw K h a (hrow (hrow (hrow M 0 (rnF (mPf (M 0) R P (mK (M 0) R P)) (tkM (M 0) R P (mK (M 0) R P)) (p + 1))) 9 E2) 10 (mcR (M 0) R P (M 10) 6))) H := hP
                  have hD : va_D A (mw K h a (hrow (hrow (hrow M 0 (rnF (mPf (M 0) R P (mK (M 0) R P)) (tkM (M 0) R P (mK (M 0) R P)) (p + 1))) 9 E2) 10 (mcR (M 0) R P (M 10) 6))) := hD
                  exact ih133 (p + 1) _ _ _ (by omega) (by first | omega | assumption | first | rfl | (simp [c_19, c_23, c_23n, c_138, c_155]; done) | omega) hP hD hS (lv_cons (lv_at hl 1 rfl) (lv_cons (lv_at hl 2 rfl) (lv_cons (lv_at hl 3 rfl) (lv_cons (lv_at hl 4 rfl) (lv_cons (lv_at hl 5 rfl) (lv_cons (lv_at hl 0 rfl) (lv_nil hl)))))))
                · skip
                  refine lv_aload_n hx hb dX6_plays_158 rfl (lv_at hl 1 rfl) ?_
                  refine lv_bipush (v := (40 : Int32)) hx hb dX6_plays_159 (by decide) ?_
                  refine lv_iload hx hb dX6_plays_161 (lv_at hl 5 rfl) ?_
                  refine lv_iadd hx hb dX6_plays_163 ?_
                  refine xi_ld hx hb hK hP 1 (f := (rnF (mPf (M 0) R P (mK (M 0) R P)) (tkM (M 0) R P (mK (M 0) R P)) p)) rfl (40 + p) (nn_add rfl rfl) (by omega) (by decide) dX6_plays_164 ?_
                  refine lv_iconst (v := (1 : Int32)) hx hb dX6_plays_165 (by decide) ?_
                  refine lv_iadd hx hb dX6_plays_166 ?_
                  refine lv_goto (tgt := 171) hx hb dX6_plays_167 (by decide) ?_
                  refine xi_st hx hb hK hP hD hS 1 (f := (rnF (mPf (M 0) R P (mK (M 0) R P)) (tkM (M 0) R P (mK (M 0) R P)) p)) rfl (40 + p) (nn_add rfl rfl) (by omega) (by decide) (mw K h a (hrow (hrow (hrow M 0 (upd (rnF (mPf (M 0) R P (mK (M 0) R P)) (tkM (M 0) R P (mK (M 0) R P)) p) (40 + p) (((rnF (mPf (M 0) R P (mK (M 0) R P)) (tkM (M 0) R P (mK (M 0) R P)) p) (40 + p)) + (1 : Int32)))) 9 E2) 10 (mcR (M 0) R P (M 10) 6))) rfl dX6_plays_171 (fun H locs hP hD hS => ?_)
                  refine lv_iinc (v := nI (p + 1)) (lv' := [(5, .int (nI (p + 1))), (0, .ref h), (1, .ref (a 0)), (2, .int (mStr (M 0) R P)), (3, .int (mPd (M 0) R P (mK (M 0) R P))), (4, .int (nI (tkM (M 0) R P (mK (M 0) R P))))]) hx hb dX6_plays_172 hl (k := 5) rfl (nI_1 _) (by decide) rfl (fun ls hl => ?_)
                  refine lv_goto (tgt := 133) hx hb dX6_plays_175 (by decide) ?_
                  have eR13 : (upd (rnF (mPf (M 0) R P (mK (M 0) R P)) (tkM (M 0) R P (mK (M 0) R P)) p) (40 + p) (((rnF (mPf (M 0) R P (mK (M 0) R P)) (tkM (M 0) R P (mK (M 0) R P)) p) (40 + p)) + (1 : Int32))) = rnF (mPf (M 0) R P (mK (M 0) R P)) (tkM (M 0) R P (mK (M 0) R P)) (p + 1) := by first | exact rn_s (by rw [if_pos ((isIn_iff (by omega) (by omega)).mp c_155), rn_k]) | exact rn_s (by rw [if_neg (fun z => c_155 ((isIn_iff (by omega) (by omega)).mpr z))])
                  rw [eR13] at hP hD
                  have hP : va_P K.1 vwCl (mw K h a (hrow (hrow (hrow M 0 (rnF (mPf (M 0) R P (mK (M 0) R P)) (tkM (M 0) R P (mK (M 0) R P)) (p + 1))) 9 E2) 10 (mcR (M 0) R P (M 10) 6))) H := hP
                  have hD : va_D A (mw K h a (hrow (hrow (hrow M 0 (rnF (mPf (M 0) R P (mK (M 0) R P)) (tkM (M 0) R P (mK (M 0) R P)) (p + 1))) 9 E2) 10 (mcR (M 0) R P (M 10) 6))) := hD
                  exact ih133 (p + 1) _ _ _ (by omega) (by first | omega | assumption | first | rfl | (simp [c_19, c_23, c_23n, c_138, c_155]; done) | omega) hP hD hS (lv_cons (lv_at hl 1 rfl) (lv_cons (lv_at hl 2 rfl) (lv_cons (lv_at hl 3 rfl) (lv_cons (lv_at hl 4 rfl) (lv_cons (lv_at hl 5 rfl) (lv_cons (lv_at hl 0 rfl) (lv_nil hl)))))))
          have eR14 : (mPf (M 0) R P (mK (M 0) R P)) = rnF (mPf (M 0) R P (mK (M 0) R P)) (tkM (M 0) R P (mK (M 0) R P)) 0 := by exact rn_0 _ _
          have hP : va_P K.1 vwCl (mw K h a (hrow (hrow (hrow M 0 (rnF (mPf (M 0) R P (mK (M 0) R P)) (tkM (M 0) R P (mK (M 0) R P)) 0)) 9 E2) 10 (mcR (M 0) R P (M 10) 6))) H := by rw [← eR14]; exact hP
          have hD : va_D A (mw K h a (hrow (hrow (hrow M 0 (rnF (mPf (M 0) R P (mK (M 0) R P)) (tkM (M 0) R P (mK (M 0) R P)) 0)) 9 E2) 10 (mcR (M 0) R P (M 10) 6))) := by rw [← eR14]; exact hD
          have hP : va_P K.1 vwCl (mw K h a (hrow (hrow (hrow M 0 (rnF (mPf (M 0) R P (mK (M 0) R P)) (tkM (M 0) R P (mK (M 0) R P)) 0)) 9 E2) 10 (mcR (M 0) R P (M 10) 6))) H := hP
          have hD : va_D A (mw K h a (hrow (hrow (hrow M 0 (rnF (mPf (M 0) R P (mK (M 0) R P)) (tkM (M 0) R P (mK (M 0) R P)) 0)) 9 E2) 10 (mcR (M 0) R P (M 10) 6))) := hD
          exact lp133 _ 0 _ _ _ (Nat.lt_succ_self _) (by first | omega | assumption | first | rfl | (simp [c_19, c_23, c_23n]; done) | omega) hP hD hS (lv_cons (lv_at hl 1 rfl) (lv_cons (lv_at hl 2 rfl) (lv_cons (lv_at hl 3 rfl) (lv_cons (lv_at hl 4 rfl) (lv_cons (lv_at hl 5 rfl) (lv_cons (lv_is (lv_at hl 0 rfl) (show (0 : Int32) = nI 0 by first | rfl | (simp [c_19, c_23, c_23n]; done) | omega)) (lv_nil hl)))))))
        · skip
          have c_23n := Int32.not_lt.mp c_23
          have hpk := pkM_w (k := k) hR0b hP0b hok c_23 c_19
          refine lv_aload_n hx hb dX6_plays_26 rfl (lv_at hl 0 rfl) ?_
          refine va_get (ci := 6) (v := .ref (a 10)) (C := RX6) (T := TX6) (N := 14) hx hb hts hi6 hown hK hP 0 rfl rfl 10 (by decide) lk32 (fun _ h9 => h9) rfl dX6_plays_27 ?_
          refine lv_iload hx hb dX6_plays_30 (lv_at hl 5 rfl) ?_
          refine xi_ld hx hb hK hP 8 (f := (mcR (M 0) R P (M 10) 6)) rfl k rfl (by omega) (by decide) dX6_plays_32 ?_
          rw [show (mcR (M 0) R P (M 10) 6) k = nI (pkM (M 0) R P k) from (mcR_at (by omega)).trans hpk.2.1]
          refine lv_istore (lv' := [(6, .int (nI (pkM (M 0) R P k))), (0, .ref h), (1, .ref (a 0)), (2, .int (mStr (M 0) R P)), (3, .int (mPd (M 0) R P k)), (4, .int (nI (tkM (M 0) R P k))), (5, .int (nI k))]) hx hb dX6_plays_33 hl (by decide) rfl (fun ls hl => ?_)
          refine lv_aload_n hx hb dX6_plays_35 rfl (lv_at hl 2 rfl) ?_
          refine lv_iload hx hb dX6_plays_36 (lv_at hl 0 rfl) ?_
          refine lv_iload hx hb dX6_plays_38 (lv_at hl 6 rfl) ?_
          have hPc := P_sub (ws' := [((a 0), aI K 190 (mPf (M 0) R P k))]) hP [1] rfl
          refine xr_S (As := [.ref (a 0), .int (nI (pkM (M 0) R P k)), .int (nI k)]) (rest := []) ⟨hx, hb, hml, hown, hts⟩ (c_X6_payFor l K (a 0) (mPf (M 0) R P k) (pkM (M 0) R P k) (by omega) k (by omega)) (va_cwS 3 hts gX6_plays_X6_payFor rfl rfl rfl (by decide +kernel) ⟨Nat.le_of_ble_eq_true rfl, Nat.le_of_ble_eq_true rfl⟩) hK hPc rfl hl.1 rfl (Nat.le_of_ble_eq_true rfl) (Nat.le_of_ble_eq_true rfl) (Nat.le_of_ble_eq_true rfl) dX6_plays_40 ?_
          refine lv_istore (lv' := [(7, .int (mPay (mPf (M 0) R P k) (pkM (M 0) R P k) k)), (6, .int (nI (pkM (M 0) R P k))), (0, .ref h), (1, .ref (a 0)), (2, .int (mStr (M 0) R P)), (3, .int (mPd (M 0) R P k)), (4, .int (nI (tkM (M 0) R P k))), (5, .int (nI k))]) hx hb dX6_plays_43 hl (by decide) rfl (fun ls hl => ?_)
          refine lv_iload_n hx hb dX6_plays_45 rfl (lv_at hl 5 rfl) ?_
          refine lv_iload hx hb dX6_plays_46 (lv_at hl 0 rfl) ?_
          refine lv_iadd hx hb dX6_plays_48 ?_
          refine lv_istore_n (lv' := [(3, .int ((mPd (M 0) R P k) + (mPay (mPf (M 0) R P k) (pkM (M 0) R P k) k))), (7, .int (mPay (mPf (M 0) R P k) (pkM (M 0) R P k) k)), (6, .int (nI (pkM (M 0) R P k))), (0, .ref h), (1, .ref (a 0)), (2, .int (mStr (M 0) R P)), (4, .int (nI (tkM (M 0) R P k))), (5, .int (nI k))]) hx hb dX6_plays_49 rfl hl (by decide) rfl (fun ls hl => ?_)
          refine lv_iload hx hb dX6_plays_50 (lv_at hl 6 rfl) ?_
          refine lv_iconst (v := (1 : Int32)) hx hb dX6_plays_52 (by decide) ?_
          refine lv_iload hx hb dX6_plays_53 (lv_at hl 2 rfl) ?_
          refine lv_ishl hx hb dX6_plays_55 ?_
          refine lv_ior hx hb dX6_plays_56 ?_
          refine lv_istore (lv' := [(4, .int ((nI (tkM (M 0) R P k)) ||| ((1 : Int32) <<< ((nI (pkM (M 0) R P k)) &&& 31)))), (3, .int ((mPd (M 0) R P k) + (mPay (mPf (M 0) R P k) (pkM (M 0) R P k) k))), (7, .int (mPay (mPf (M 0) R P k) (pkM (M 0) R P k) k)), (6, .int (nI (pkM (M 0) R P k))), (0, .ref h), (1, .ref (a 0)), (2, .int (mStr (M 0) R P)), (5, .int (nI k))]) hx hb dX6_plays_57 hl (by decide) rfl (fun ls hl => ?_)
          refine lv_aload_n hx hb dX6_plays_59 rfl (lv_at hl 5 rfl) ?_
          refine lv_bipush (v := (30 : Int32)) hx hb dX6_plays_60 (by decide) ?_
          refine lv_iload hx hb dX6_plays_62 (lv_at hl 3 rfl) ?_
          refine lv_iadd hx hb dX6_plays_64 ?_
          refine lv_dup2_11 hx hb dX6_plays_65 rfl rfl ?_
          refine xi_ld hx hb hK hP 1 (f := (mPf (M 0) R P k)) rfl (30 + (pkM (M 0) R P k)) (nn_add rfl rfl) (by omega) (by decide) dX6_plays_66 ?_
          refine lv_iload hx hb dX6_plays_67 (lv_at hl 2 rfl) ?_
          refine lv_iadd hx hb dX6_plays_69 ?_
          refine xi_st hx hb hK hP hD hS 1 (f := (mPf (M 0) R P k)) rfl (30 + (pkM (M 0) R P k)) (nn_add rfl rfl) (by omega) (by decide) (mw K h a (hrow (hrow (hrow M 0 (upd (mPf (M 0) R P k) (30 + (pkM (M 0) R P k)) (((mPf (M 0) R P k) (30 + (pkM (M 0) R P k))) + (mPay (mPf (M 0) R P k) (pkM (M 0) R P k) k)))) 9 E2) 10 (mcR (M 0) R P (M 10) 6))) rfl dX6_plays_70 (fun H locs hP hD hS => ?_)
          refine lv_aload_n hx hb dX6_plays_71 rfl (lv_at hl 5 rfl) ?_
          refine lv_bipush (v := (60 : Int32)) hx hb dX6_plays_72 (by decide) ?_
          refine lv_iload hx hb dX6_plays_74 (lv_at hl 3 rfl) ?_
          refine lv_iadd hx hb dX6_plays_76 ?_
          refine lv_dup2_11 hx hb dX6_plays_77 rfl rfl ?_
          refine xi_ld hx hb hK hP 1 (f := (upd (mPf (M 0) R P k) (30 + (pkM (M 0) R P k)) (((mPf (M 0) R P k) (30 + (pkM (M 0) R P k))) + (mPay (mPf (M 0) R P k) (pkM (M 0) R P k) k)))) rfl (60 + (pkM (M 0) R P k)) (nn_add rfl rfl) (by omega) (by decide) dX6_plays_78 ?_
          refine lv_iconst (v := (1 : Int32)) hx hb dX6_plays_79 (by decide) ?_
          refine lv_iadd hx hb dX6_plays_80 ?_
          refine xi_st hx hb hK hP hD hS 1 (f := (upd (mPf (M 0) R P k) (30 + (pkM (M 0) R P k)) (((mPf (M 0) R P k) (30 + (pkM (M 0) R P k))) + (mPay (mPf (M 0) R P k) (pkM (M 0) R P k) k)))) rfl (60 + (pkM (M 0) R P k)) (nn_add rfl rfl) (by omega) (by decide) (mw K h a (hrow (hrow (hrow M 0 (upd (upd (mPf (M 0) R P k) (30 + (pkM (M 0) R P k)) (((mPf (M 0) R P k) (30 + (pkM (M 0) R P k))) + (mPay (mPf (M 0) R P k) (pkM (M 0) R P k) k))) (60 + (pkM (M 0) R P k)) (((upd (mPf (M 0) R P k) (30 + (pkM (M 0) R P k)) (((mPf (M 0) R P k) (30 + (pkM (M 0) R P k))) + (mPay (mPf (M 0) R P k) (pkM (M 0) R P k) k))) (60 + (pkM (M 0) R P k))) + (1 : Int32)))) 9 E2) 10 (mcR (M 0) R P (M 10) 6))) rfl dX6_plays_81 (fun H locs hP hD hS => ?_)
          refine lv_aload_n hx hb dX6_plays_82 rfl (lv_at hl 5 rfl) ?_
          refine lv_sipush (v := (130 : Int32)) hx hb dX6_plays_83 (by decide) ?_
          refine lv_bipush (v := (6 : Int32)) hx hb dX6_plays_86 (by decide) ?_
          refine lv_iload hx hb dX6_plays_88 (lv_at hl 3 rfl) ?_
          refine lv_imul hx hb dX6_plays_90 ?_
          refine lv_iadd hx hb dX6_plays_91 ?_
          refine lv_iload hx hb dX6_plays_92 (lv_at hl 7 rfl) ?_
          refine lv_iadd hx hb dX6_plays_94 ?_
          refine lv_dup2_11 hx hb dX6_plays_95 rfl rfl ?_
          refine xi_ld hx hb hK hP 1 (f := (upd (upd (mPf (M 0) R P k) (30 + (pkM (M 0) R P k)) (((mPf (M 0) R P k) (30 + (pkM (M 0) R P k))) + (mPay (mPf (M 0) R P k) (pkM (M 0) R P k) k))) (60 + (pkM (M 0) R P k)) (((upd (mPf (M 0) R P k) (30 + (pkM (M 0) R P k)) (((mPf (M 0) R P k) (30 + (pkM (M 0) R P k))) + (mPay (mPf (M 0) R P k) (pkM (M 0) R P k) k))) (60 + (pkM (M 0) R P k))) + (1 : Int32)))) rfl ((130 + (6 * (pkM (M 0) R P k))) + k) (nn_add (nn_add rfl (nn_mul rfl rfl)) rfl) (by omega) (by decide) dX6_plays_96 ?_
          refine lv_iconst (v := (1 : Int32)) hx hb dX6_plays_97 (by decide) ?_
          refine lv_iadd hx hb dX6_plays_98 ?_
          refine xi_st hx hb hK hP hD hS 1 (f := (upd (upd (mPf (M 0) R P k) (30 + (pkM (M 0) R P k)) (((mPf (M 0) R P k) (30 + (pkM (M 0) R P k))) + (mPay (mPf (M 0) R P k) (pkM (M 0) R P k) k))) (60 + (pkM (M 0) R P k)) (((upd (mPf (M 0) R P k) (30 + (pkM (M 0) R P k)) (((mPf (M 0) R P k) (30 + (pkM (M 0) R P k))) + (mPay (mPf (M 0) R P k) (pkM (M 0) R P k) k))) (60 + (pkM (M 0) R P k))) + (1 : Int32)))) rfl ((130 + (6 * (pkM (M 0) R P k))) + k) (nn_add (nn_add rfl (nn_mul rfl rfl)) rfl) (by omega) (by decide) (mw K h a (hrow (hrow (hrow M 0 (upd (upd (upd (mPf (M 0) R P k) (30 + (pkM (M 0) R P k)) (((mPf (M 0) R P k) (30 + (pkM (M 0) R P k))) + (mPay (mPf (M 0) R P k) (pkM (M 0) R P k) k))) (60 + (pkM (M 0) R P k)) (((upd (mPf (M 0) R P k) (30 + (pkM (M 0) R P k)) (((mPf (M 0) R P k) (30 + (pkM (M 0) R P k))) + (mPay (mPf (M 0) R P k) (pkM (M 0) R P k) k))) (60 + (pkM (M 0) R P k))) + (1 : Int32))) ((130 + (6 * (pkM (M 0) R P k))) + k) (((upd (upd (mPf (M 0) R P k) (30 + (pkM (M 0) R P k)) (((mPf (M 0) R P k) (30 + (pkM (M 0) R P k))) + (mPay (mPf (M 0) R P k) (pkM (M 0) R P k) k))) (60 + (pkM (M 0) R P k)) (((upd (mPf (M 0) R P k) (30 + (pkM (M 0) R P k)) (((mPf (M 0) R P k) (30 + (pkM (M 0) R P k))) + (mPay (mPf (M 0) R P k) (pkM (M 0) R P k) k))) (60 + (pkM (M 0) R P k))) + (1 : Int32))) ((130 + (6 * (pkM (M 0) R P k))) + k)) + (1 : Int32)))) 9 E2) 10 (mcR (M 0) R P (M 10) 6))) rfl dX6_plays_99 (fun H locs hP hD hS => ?_)
          refine lv_aload_n hx hb dX6_plays_100 rfl (lv_at hl 5 rfl) ?_
          refine lv_bipush (v := (11 : Int32)) hx hb dX6_plays_101 (by decide) ?_
          refine lv_dup2_11 hx hb dX6_plays_103 rfl rfl ?_
          refine xi_ld hx hb hK hP 1 (f := (upd (upd (upd (mPf (M 0) R P k) (30 + (pkM (M 0) R P k)) (((mPf (M 0) R P k) (30 + (pkM (M 0) R P k))) + (mPay (mPf (M 0) R P k) (pkM (M 0) R P k) k))) (60 + (pkM (M 0) R P k)) (((upd (mPf (M 0) R P k) (30 + (pkM (M 0) R P k)) (((mPf (M 0) R P k) (30 + (pkM (M 0) R P k))) + (mPay (mPf (M 0) R P k) (pkM (M 0) R P k) k))) (60 + (pkM (M 0) R P k))) + (1 : Int32))) ((130 + (6 * (pkM (M 0) R P k))) + k) (((upd (upd (mPf (M 0) R P k) (30 + (pkM (M 0) R P k)) (((mPf (M 0) R P k) (30 + (pkM (M 0) R P k))) + (mPay (mPf (M 0) R P k) (pkM (M 0) R P k) k))) (60 + (pkM (M 0) R P k)) (((upd (mPf (M 0) R P k) (30 + (pkM (M 0) R P k)) (((mPf (M 0) R P k) (30 + (pkM (M 0) R P k))) + (mPay (mPf (M 0) R P k) (pkM (M 0) R P k) k))) (60 + (pkM (M 0) R P k))) + (1 : Int32))) ((130 + (6 * (pkM (M 0) R P k))) + k)) + (1 : Int32)))) rfl 11 rfl (by omega) (by decide) dX6_plays_104 ?_
          refine lv_aload_n hx hb dX6_plays_105 rfl (lv_at hl 5 rfl) ?_
          refine lv_bipush (v := (18 : Int32)) hx hb dX6_plays_106 (by decide) ?_
          refine lv_iload hx hb dX6_plays_108 (lv_at hl 7 rfl) ?_
          refine lv_iadd hx hb dX6_plays_110 ?_
          refine xi_ld hx hb hK hP 1 (f := (upd (upd (upd (mPf (M 0) R P k) (30 + (pkM (M 0) R P k)) (((mPf (M 0) R P k) (30 + (pkM (M 0) R P k))) + (mPay (mPf (M 0) R P k) (pkM (M 0) R P k) k))) (60 + (pkM (M 0) R P k)) (((upd (mPf (M 0) R P k) (30 + (pkM (M 0) R P k)) (((mPf (M 0) R P k) (30 + (pkM (M 0) R P k))) + (mPay (mPf (M 0) R P k) (pkM (M 0) R P k) k))) (60 + (pkM (M 0) R P k))) + (1 : Int32))) ((130 + (6 * (pkM (M 0) R P k))) + k) (((upd (upd (mPf (M 0) R P k) (30 + (pkM (M 0) R P k)) (((mPf (M 0) R P k) (30 + (pkM (M 0) R P k))) + (mPay (mPf (M 0) R P k) (pkM (M 0) R P k) k))) (60 + (pkM (M 0) R P k)) (((upd (mPf (M 0) R P k) (30 + (pkM (M 0) R P k)) (((mPf (M 0) R P k) (30 + (pkM (M 0) R P k))) + (mPay (mPf (M 0) R P k) (pkM (M 0) R P k) k))) (60 + (pkM (M 0) R P k))) + (1 : Int32))) ((130 + (6 * (pkM (M 0) R P k))) + k)) + (1 : Int32)))) rfl (18 + k) (nn_add rfl rfl) (by omega) (by decide) dX6_plays_111 ?_
          refine lv_iload hx hb dX6_plays_112 (lv_at hl 3 rfl) ?_
          refine lv_icmp_ne (tgt := 121) hx hb dX6_plays_114 (by decide) (fun c_114 => ?_) (fun c_114 => ?_)
          · skip
            refine lv_iconst (v := (1 : Int32)) hx hb dX6_plays_121 (by decide) ?_
            refine lv_iadd hx hb dX6_plays_122 ?_
            refine xi_st hx hb hK hP hD hS 1 (f := (upd (upd (upd (mPf (M 0) R P k) (30 + (pkM (M 0) R P k)) (((mPf (M 0) R P k) (30 + (pkM (M 0) R P k))) + (mPay (mPf (M 0) R P k) (pkM (M 0) R P k) k))) (60 + (pkM (M 0) R P k)) (((upd (mPf (M 0) R P k) (30 + (pkM (M 0) R P k)) (((mPf (M 0) R P k) (30 + (pkM (M 0) R P k))) + (mPay (mPf (M 0) R P k) (pkM (M 0) R P k) k))) (60 + (pkM (M 0) R P k))) + (1 : Int32))) ((130 + (6 * (pkM (M 0) R P k))) + k) (((upd (upd (mPf (M 0) R P k) (30 + (pkM (M 0) R P k)) (((mPf (M 0) R P k) (30 + (pkM (M 0) R P k))) + (mPay (mPf (M 0) R P k) (pkM (M 0) R P k) k))) (60 + (pkM (M 0) R P k)) (((upd (mPf (M 0) R P k) (30 + (pkM (M 0) R P k)) (((mPf (M 0) R P k) (30 + (pkM (M 0) R P k))) + (mPay (mPf (M 0) R P k) (pkM (M 0) R P k) k))) (60 + (pkM (M 0) R P k))) + (1 : Int32))) ((130 + (6 * (pkM (M 0) R P k))) + k)) + (1 : Int32)))) rfl 11 rfl (by omega) (by decide) (mw K h a (hrow (hrow (hrow M 0 (upd (upd (upd (upd (mPf (M 0) R P k) (30 + (pkM (M 0) R P k)) (((mPf (M 0) R P k) (30 + (pkM (M 0) R P k))) + (mPay (mPf (M 0) R P k) (pkM (M 0) R P k) k))) (60 + (pkM (M 0) R P k)) (((upd (mPf (M 0) R P k) (30 + (pkM (M 0) R P k)) (((mPf (M 0) R P k) (30 + (pkM (M 0) R P k))) + (mPay (mPf (M 0) R P k) (pkM (M 0) R P k) k))) (60 + (pkM (M 0) R P k))) + (1 : Int32))) ((130 + (6 * (pkM (M 0) R P k))) + k) (((upd (upd (mPf (M 0) R P k) (30 + (pkM (M 0) R P k)) (((mPf (M 0) R P k) (30 + (pkM (M 0) R P k))) + (mPay (mPf (M 0) R P k) (pkM (M 0) R P k) k))) (60 + (pkM (M 0) R P k)) (((upd (mPf (M 0) R P k) (30 + (pkM (M 0) R P k)) (((mPf (M 0) R P k) (30 + (pkM (M 0) R P k))) + (mPay (mPf (M 0) R P k) (pkM (M 0) R P k) k))) (60 + (pkM (M 0) R P k))) + (1 : Int32))) ((130 + (6 * (pkM (M 0) R P k))) + k)) + (1 : Int32))) 11 (((upd (upd (upd (mPf (M 0) R P k) (30 + (pkM (M 0) R P k)) (((mPf (M 0) R P k) (30 + (pkM (M 0) R P k))) + (mPay (mPf (M 0) R P k) (pkM (M 0) R P k) k))) (60 + (pkM (M 0) R P k)) (((upd (mPf (M 0) R P k) (30 + (pkM (M 0) R P k)) (((mPf (M 0) R P k) (30 + (pkM (M 0) R P k))) + (mPay (mPf (M 0) R P k) (pkM (M 0) R P k) k))) (60 + (pkM (M 0) R P k))) + (1 : Int32))) ((130 + (6 * (pkM (M 0) R P k))) + k) (((upd (upd (mPf (M 0) R P k) (30 + (pkM (M 0) R P k)) (((mPf (M 0) R P k) (30 + (pkM (M 0) R P k))) + (mPay (mPf (M 0) R P k) (pkM (M 0) R P k) k))) (60 + (pkM (M 0) R P k)) (((upd (mPf (M 0) R P k) (30 + (pkM (M 0) R P k)) (((mPf (M 0) R P k) (30 + (pkM (M 0) R P k))) + (mPay (mPf (M 0) R P k) (pkM (M 0) R P k) k))) (60 + (pkM (M 0) R P k))) + (1 : Int32))) ((130 + (6 * (pkM (M 0) R P k))) + k)) + (1 : Int32))) 11) + (1 : Int32)))) 9 E2) 10 (mcR (M 0) R P (M 10) 6))) rfl dX6_plays_123 (fun H locs hP hD hS => ?_)
            refine lv_iinc (v := nI (k + 1)) (lv' := [(5, .int (nI (k + 1))), (4, .int ((nI (tkM (M 0) R P k)) ||| ((1 : Int32) <<< ((nI (pkM (M 0) R P k)) &&& 31)))), (3, .int ((mPd (M 0) R P k) + (mPay (mPf (M 0) R P k) (pkM (M 0) R P k) k))), (7, .int (mPay (mPf (M 0) R P k) (pkM (M 0) R P k) k)), (6, .int (nI (pkM (M 0) R P k))), (0, .ref h), (1, .ref (a 0)), (2, .int (mStr (M 0) R P))]) hx hb dX6_plays_124 hl (k := 7) rfl (nI_1 _) (by decide) rfl (fun ls hl => ?_)
            refine lv_goto (tgt := 14) hx hb dX6_plays_127 (by decide) ?_
            have eR15 : (upd (upd (upd (upd (mPf (M 0) R P k) (30 + (pkM (M 0) R P k)) (((mPf (M 0) R P k) (30 + (pkM (M 0) R P k))) + (mPay (mPf (M 0) R P k) (pkM (M 0) R P k) k))) (60 + (pkM (M 0) R P k)) (((upd (mPf (M 0) R P k) (30 + (pkM (M 0) R P k)) (((mPf (M 0) R P k) (30 + (pkM (M 0) R P k))) + (mPay (mPf (M 0) R P k) (pkM (M 0) R P k) k))) (60 + (pkM (M 0) R P k))) + (1 : Int32))) ((130 + (6 * (pkM (M 0) R P k))) + k) (((upd (upd (mPf (M 0) R P k) (30 + (pkM (M 0) R P k)) (((mPf (M 0) R P k) (30 + (pkM (M 0) R P k))) + (mPay (mPf (M 0) R P k) (pkM (M 0) R P k) k))) (60 + (pkM (M 0) R P k)) (((upd (mPf (M 0) R P k) (30 + (pkM (M 0) R P k)) (((mPf (M 0) R P k) (30 + (pkM (M 0) R P k))) + (mPay (mPf (M 0) R P k) (pkM (M 0) R P k) k))) (60 + (pkM (M 0) R P k))) + (1 : Int32))) ((130 + (6 * (pkM (M 0) R P k))) + k)) + (1 : Int32))) 11 (((upd (upd (upd (mPf (M 0) R P k) (30 + (pkM (M 0) R P k)) (((mPf (M 0) R P k) (30 + (pkM (M 0) R P k))) + (mPay (mPf (M 0) R P k) (pkM (M 0) R P k) k))) (60 + (pkM (M 0) R P k)) (((upd (mPf (M 0) R P k) (30 + (pkM (M 0) R P k)) (((mPf (M 0) R P k) (30 + (pkM (M 0) R P k))) + (mPay (mPf (M 0) R P k) (pkM (M 0) R P k) k))) (60 + (pkM (M 0) R P k))) + (1 : Int32))) ((130 + (6 * (pkM (M 0) R P k))) + k) (((upd (upd (mPf (M 0) R P k) (30 + (pkM (M 0) R P k)) (((mPf (M 0) R P k) (30 + (pkM (M 0) R P k))) + (mPay (mPf (M 0) R P k) (pkM (M 0) R P k) k))) (60 + (pkM (M 0) R P k)) (((upd (mPf (M 0) R P k) (30 + (pkM (M 0) R P k)) (((mPf (M 0) R P k) (30 + (pkM (M 0) R P k))) + (mPay (mPf (M 0) R P k) (pkM (M 0) R P k) k))) (60 + (pkM (M 0) R P k))) + (1 : Int32))) ((130 + (6 * (pkM (M 0) R P k))) + k)) + (1 : Int32))) 11) + (1 : Int32))) = mPf (M 0) R P (k + 1) := by (show _ = mPs _ _ _; unfold mPs b4 b3 b2 b1; first | rw [if_neg c_114] | rw [if_pos c_114] | rw [if_pos (Decidable.not_not.mp c_114)])
            rw [eR15] at hP hD
            have hP : va_P K.1 vwCl (mw K h a (hrow (hrow (hrow M 0 (mPf (M 0) R P (k + 1))) 9 E2) 10 (mcR (M 0) R P (M 10) 6))) H := hP
            have hD : va_D A (mw K h a (hrow (hrow (hrow M 0 (mPf (M 0) R P (k + 1))) 9 E2) 10 (mcR (M 0) R P (M 10) 6))) := hD
            exact ih14 (k + 1) _ _ _ (by omega) (by first | omega | assumption | first | rfl | (simp [c_19, c_23, c_23n, c_114]; done) | omega) (by exact Or.inr c_23) hP hD hS (lv_cons (lv_at hl 5 rfl) (lv_cons (lv_at hl 6 rfl) (lv_cons (lv_at hl 7 rfl) (lv_cons (lv_is (lv_at hl 2 rfl) (show (mPd (M 0) R P k) + (mPay (mPf (M 0) R P k) (pkM (M 0) R P k) k) = mPd (M 0) R P (k + 1) by rfl)) (lv_cons (lv_is (lv_at hl 1 rfl) (show (nI (tkM (M 0) R P k)) ||| ((1 : Int32) <<< ((nI (pkM (M 0) R P k)) &&& 31)) = nI (tkM (M 0) R P (k + 1)) by exact (nn_or rfl (nn_shl1 rfl rfl (by omega))).trans (congrArg nI hpk.2.2.symm))) (lv_cons (lv_at hl 0 rfl) (lv_nil hl)))))))
          · skip
            refine lv_iconst (v := (0 : Int32)) hx hb dX6_plays_117 (by decide) ?_
            refine lv_goto (tgt := 122) hx hb dX6_plays_118 (by decide) ?_
            refine lv_iadd hx hb dX6_plays_122 ?_
            refine xi_st hx hb hK hP hD hS 1 (f := (upd (upd (upd (mPf (M 0) R P k) (30 + (pkM (M 0) R P k)) (((mPf (M 0) R P k) (30 + (pkM (M 0) R P k))) + (mPay (mPf (M 0) R P k) (pkM (M 0) R P k) k))) (60 + (pkM (M 0) R P k)) (((upd (mPf (M 0) R P k) (30 + (pkM (M 0) R P k)) (((mPf (M 0) R P k) (30 + (pkM (M 0) R P k))) + (mPay (mPf (M 0) R P k) (pkM (M 0) R P k) k))) (60 + (pkM (M 0) R P k))) + (1 : Int32))) ((130 + (6 * (pkM (M 0) R P k))) + k) (((upd (upd (mPf (M 0) R P k) (30 + (pkM (M 0) R P k)) (((mPf (M 0) R P k) (30 + (pkM (M 0) R P k))) + (mPay (mPf (M 0) R P k) (pkM (M 0) R P k) k))) (60 + (pkM (M 0) R P k)) (((upd (mPf (M 0) R P k) (30 + (pkM (M 0) R P k)) (((mPf (M 0) R P k) (30 + (pkM (M 0) R P k))) + (mPay (mPf (M 0) R P k) (pkM (M 0) R P k) k))) (60 + (pkM (M 0) R P k))) + (1 : Int32))) ((130 + (6 * (pkM (M 0) R P k))) + k)) + (1 : Int32)))) rfl 11 rfl (by omega) (by decide) (mw K h a (hrow (hrow (hrow M 0 (upd (upd (upd (upd (mPf (M 0) R P k) (30 + (pkM (M 0) R P k)) (((mPf (M 0) R P k) (30 + (pkM (M 0) R P k))) + (mPay (mPf (M 0) R P k) (pkM (M 0) R P k) k))) (60 + (pkM (M 0) R P k)) (((upd (mPf (M 0) R P k) (30 + (pkM (M 0) R P k)) (((mPf (M 0) R P k) (30 + (pkM (M 0) R P k))) + (mPay (mPf (M 0) R P k) (pkM (M 0) R P k) k))) (60 + (pkM (M 0) R P k))) + (1 : Int32))) ((130 + (6 * (pkM (M 0) R P k))) + k) (((upd (upd (mPf (M 0) R P k) (30 + (pkM (M 0) R P k)) (((mPf (M 0) R P k) (30 + (pkM (M 0) R P k))) + (mPay (mPf (M 0) R P k) (pkM (M 0) R P k) k))) (60 + (pkM (M 0) R P k)) (((upd (mPf (M 0) R P k) (30 + (pkM (M 0) R P k)) (((mPf (M 0) R P k) (30 + (pkM (M 0) R P k))) + (mPay (mPf (M 0) R P k) (pkM (M 0) R P k) k))) (60 + (pkM (M 0) R P k))) + (1 : Int32))) ((130 + (6 * (pkM (M 0) R P k))) + k)) + (1 : Int32))) 11 (((upd (upd (upd (mPf (M 0) R P k) (30 + (pkM (M 0) R P k)) (((mPf (M 0) R P k) (30 + (pkM (M 0) R P k))) + (mPay (mPf (M 0) R P k) (pkM (M 0) R P k) k))) (60 + (pkM (M 0) R P k)) (((upd (mPf (M 0) R P k) (30 + (pkM (M 0) R P k)) (((mPf (M 0) R P k) (30 + (pkM (M 0) R P k))) + (mPay (mPf (M 0) R P k) (pkM (M 0) R P k) k))) (60 + (pkM (M 0) R P k))) + (1 : Int32))) ((130 + (6 * (pkM (M 0) R P k))) + k) (((upd (upd (mPf (M 0) R P k) (30 + (pkM (M 0) R P k)) (((mPf (M 0) R P k) (30 + (pkM (M 0) R P k))) + (mPay (mPf (M 0) R P k) (pkM (M 0) R P k) k))) (60 + (pkM (M 0) R P k)) (((upd (mPf (M 0) R P k) (30 + (pkM (M 0) R P k)) (((mPf (M 0) R P k) (30 + (pkM (M 0) R P k))) + (mPay (mPf (M 0) R P k) (pkM (M 0) R P k) k))) (60 + (pkM (M 0) R P k))) + (1 : Int32))) ((130 + (6 * (pkM (M 0) R P k))) + k)) + (1 : Int32))) 11) + (0 : Int32)))) 9 E2) 10 (mcR (M 0) R P (M 10) 6))) rfl dX6_plays_123 (fun H locs hP hD hS => ?_)
            refine lv_iinc (v := nI (k + 1)) (lv' := [(5, .int (nI (k + 1))), (4, .int ((nI (tkM (M 0) R P k)) ||| ((1 : Int32) <<< ((nI (pkM (M 0) R P k)) &&& 31)))), (3, .int ((mPd (M 0) R P k) + (mPay (mPf (M 0) R P k) (pkM (M 0) R P k) k))), (7, .int (mPay (mPf (M 0) R P k) (pkM (M 0) R P k) k)), (6, .int (nI (pkM (M 0) R P k))), (0, .ref h), (1, .ref (a 0)), (2, .int (mStr (M 0) R P))]) hx hb dX6_plays_124 hl (k := 7) rfl (nI_1 _) (by decide) rfl (fun ls hl => ?_)
            refine lv_goto (tgt := 14) hx hb dX6_plays_127 (by decide) ?_
            have eR16 : (upd (upd (upd (upd (mPf (M 0) R P k) (30 + (pkM (M 0) R P k)) (((mPf (M 0) R P k) (30 + (pkM (M 0) R P k))) + (mPay (mPf (M 0) R P k) (pkM (M 0) R P k) k))) (60 + (pkM (M 0) R P k)) (((upd (mPf (M 0) R P k) (30 + (pkM (M 0) R P k)) (((mPf (M 0) R P k) (30 + (pkM (M 0) R P k))) + (mPay (mPf (M 0) R P k) (pkM (M 0) R P k) k))) (60 + (pkM (M 0) R P k))) + (1 : Int32))) ((130 + (6 * (pkM (M 0) R P k))) + k) (((upd (upd (mPf (M 0) R P k) (30 + (pkM (M 0) R P k)) (((mPf (M 0) R P k) (30 + (pkM (M 0) R P k))) + (mPay (mPf (M 0) R P k) (pkM (M 0) R P k) k))) (60 + (pkM (M 0) R P k)) (((upd (mPf (M 0) R P k) (30 + (pkM (M 0) R P k)) (((mPf (M 0) R P k) (30 + (pkM (M 0) R P k))) + (mPay (mPf (M 0) R P k) (pkM (M 0) R P k) k))) (60 + (pkM (M 0) R P k))) + (1 : Int32))) ((130 + (6 * (pkM (M 0) R P k))) + k)) + (1 : Int32))) 11 (((upd (upd (upd (mPf (M 0) R P k) (30 + (pkM (M 0) R P k)) (((mPf (M 0) R P k) (30 + (pkM (M 0) R P k))) + (mPay (mPf (M 0) R P k) (pkM (M 0) R P k) k))) (60 + (pkM (M 0) R P k)) (((upd (mPf (M 0) R P k) (30 + (pkM (M 0) R P k)) (((mPf (M 0) R P k) (30 + (pkM (M 0) R P k))) + (mPay (mPf (M 0) R P k) (pkM (M 0) R P k) k))) (60 + (pkM (M 0) R P k))) + (1 : Int32))) ((130 + (6 * (pkM (M 0) R P k))) + k) (((upd (upd (mPf (M 0) R P k) (30 + (pkM (M 0) R P k)) (((mPf (M 0) R P k) (30 + (pkM (M 0) R P k))) + (mPay (mPf (M 0) R P k) (pkM (M 0) R P k) k))) (60 + (pkM (M 0) R P k)) (((upd (mPf (M 0) R P k) (30 + (pkM (M 0) R P k)) (((mPf (M 0) R P k) (30 + (pkM (M 0) R P k))) + (mPay (mPf (M 0) R P k) (pkM (M 0) R P k) k))) (60 + (pkM (M 0) R P k))) + (1 : Int32))) ((130 + (6 * (pkM (M 0) R P k))) + k)) + (1 : Int32))) 11) + (0 : Int32))) = mPf (M 0) R P (k + 1) := by (show _ = mPs _ _ _; unfold mPs b4 b3 b2 b1; first | rw [if_neg c_114] | rw [if_pos c_114] | rw [if_pos (Decidable.not_not.mp c_114)])
            rw [eR16] at hP hD
            have hP : va_P K.1 vwCl (mw K h a (hrow (hrow (hrow M 0 (mPf (M 0) R P (k + 1))) 9 E2) 10 (mcR (M 0) R P (M 10) 6))) H := hP
            have hD : va_D A (mw K h a (hrow (hrow (hrow M 0 (mPf (M 0) R P (k + 1))) 9 E2) 10 (mcR (M 0) R P (M 10) 6))) := hD
            exact ih14 (k + 1) _ _ _ (by omega) (by first | omega | assumption | first | rfl | (simp [c_19, c_23, c_23n, c_114]; done) | omega) (by exact Or.inr c_23) hP hD hS (lv_cons (lv_at hl 5 rfl) (lv_cons (lv_at hl 6 rfl) (lv_cons (lv_at hl 7 rfl) (lv_cons (lv_is (lv_at hl 2 rfl) (show (mPd (M 0) R P k) + (mPay (mPf (M 0) R P k) (pkM (M 0) R P k) k) = mPd (M 0) R P (k + 1) by rfl)) (lv_cons (lv_is (lv_at hl 1 rfl) (show (nI (tkM (M 0) R P k)) ||| ((1 : Int32) <<< ((nI (pkM (M 0) R P k)) &&& 31)) = nI (tkM (M 0) R P (k + 1)) by exact (nn_or rfl (nn_shl1 rfl rfl (by omega))).trans (congrArg nI hpk.2.2.symm))) (lv_cons (lv_at hl 0 rfl) (lv_nil hl)))))))
  have hP : va_P K.1 vwCl (mw K h a (hrow (hrow (hrow M 0 (M 0)) 9 E2) 10 (mcR (M 0) R P (M 10) 6))) H := hP
  have hD : va_D A (mw K h a (hrow (hrow (hrow M 0 (M 0)) 9 E2) 10 (mcR (M 0) R P (M 10) 6))) := hD
  have eR17 : (M 0) = mPf (M 0) R P 0 := by rfl
  have hP : va_P K.1 vwCl (mw K h a (hrow (hrow (hrow M 0 (mPf (M 0) R P 0)) 9 E2) 10 (mcR (M 0) R P (M 10) 6))) H := by rw [← eR17]; exact hP
  have hD : va_D A (mw K h a (hrow (hrow (hrow M 0 (mPf (M 0) R P 0)) 9 E2) 10 (mcR (M 0) R P (M 10) 6))) := by rw [← eR17]; exact hD
  have hP : va_P K.1 vwCl (mw K h a (hrow (hrow (hrow M 0 (mPf (M 0) R P 0)) 9 E2) 10 (mcR (M 0) R P (M 10) 6))) H := hP
  have hD : va_D A (mw K h a (hrow (hrow (hrow M 0 (mPf (M 0) R P 0)) 9 E2) 10 (mcR (M 0) R P (M 10) 6))) := hD
  exact lp14 _ 0 _ _ _ (Nat.lt_succ_self _) (by first | omega | assumption | first | rfl | (simp; done) | omega) (by exact Or.inl rfl) hP hD hS (lv_cons (lv_at hl 4 rfl) (lv_cons (lv_at hl 5 rfl) (lv_cons (lv_at hl 3 rfl) (lv_cons (lv_is (lv_at hl 2 rfl) (show (0 : Int32) = mPd (M 0) R P 0 by rfl)) (lv_cons (lv_is (lv_at hl 1 rfl) (show (0 : Int32) = nI (tkM (M 0) R P 0) by exact tkM_0 _ _ _)) (lv_cons (lv_is (lv_at hl 0 rfl) (show (0 : Int32) = nI 0 by rfl)) (lv_nil hl)))))))

abbrev rm_X6_posts_n : Room := { frames := 4, cells := 0, slots := 0, locals := 96 }
set_option maxHeartbeats 4000000 in
set_option maxRecDepth 100000 in
theorem c_X6_posts_n (l : Launch) (K : KX) (h : Nat) (a : Nat → Nat) (M : HV) (R : Nat) (hR0 : M 0 3 = nI R) (hR0b : R ≤ 6) (P : Nat) (hP0 : M 0 4 = nI P) (hP0b : P ≤ 10) (hok : mOK (M 0) R P) (sz : Nat) : Met l yX6_posts wsX6_posts rm_X6_posts_n (va_Pc [.ref h, .ref (a 0)] (xPre K (mw K h a M) sz)) (va_Qi (fun (r9 : Int32) (u9 : Nat → Int32) => r9 = mStr (M 0) R P) (fun u9 t => xPost K (va_A (mw K h a M) sz) (mw K h a (hrow (hrow (hrow M 0 (mPost (M 0) R P)) 9 u9) 10 (mcR (M 0) R P (M 10) 6))) t) (va_A (mw K h a M) sz)) 0 0 (va_A (mw K h a M) sz) := by
  refine xw_starti (cc := cX6_posts) (maxL := 4) (by decide) rfl (Nat.le_of_ble_eq_true rfl) ?_
  intro p9 e9 s9 m9 below9 meth9 c9 H locs ls A av9 Q9 hx hb hlocks hml hname hts hown hK hP hD hS hA hsz hend hl
  have hown : s9.vm.findClass RX6 = some m9.cls := hown
  have hl : lv_has ls 4 [(0, .ref h), (1, .ref (a 0))] := hl
  have hi6 : ∀ w ∈ u_ws RX6 TX6 14, w ∈ wsX6_posts := by decide +kernel
  have lk32 := hts (.fieldLink RX6 32 "StandInsModel" "cast" "[I") (by decide +kernel)
  refine lv_aload_n hx hb dX6_posts_0 rfl (lv_at hl 0 rfl) ?_
  refine lv_aload_n hx hb dX6_posts_1 rfl (lv_at hl 1 rfl) ?_
  refine xw_Vi (As := [.ref (a 0)]) (rest := []) (wc := mw K h a M) (wr := (List.filterMap (fun i => (mw K h a M : va_W)[i]?) ([] : List Nat))) ⟨hx, hb, hml, hown, hts⟩ (c_X6_casts_n l K h a M R hR0 (by omega) P hP0 (by omega) (by first | assumption | omega) H.size) (cwV 1 hts gX6_posts_X6_casts rfl rfl rfl (by decide +kernel) ⟨Nat.le_of_ble_eq_true rfl, Nat.le_of_ble_eq_true rfl⟩) hK hP hD hS hA [0, 1, 2, 3, 4, 5, 6, 7, 8, 9] [] [0, 1, 2, 3, 4, 5, 6, 7, 8, 9] rfl rfl rfl (fun E2 => mw K h a (hrow (hrow M 9 E2) 10 (mcR (M 0) R P (M 10) 6))) (fun _ => rfl) 0 6 rfl rfl rfl rfl hl.1 rfl (Nat.le_of_ble_eq_true rfl) (Nat.le_of_ble_eq_true rfl) (Nat.le_of_ble_eq_true rfl) dX6_posts_2 (fun r2 E2 H locs hq2 hP hD hS => ?_)
  have hP : va_P K.1 vwCl (mw K h a (hrow (hrow M 9 E2) 10 (mcR (M 0) R P (M 10) 6))) H := hP
  have hD : va_D A (mw K h a (hrow (hrow M 9 E2) 10 (mcR (M 0) R P (M 10) 6))) := hD
  subst hq2
  refine lv_istore_n (lv' := [(2, .int (mStr (M 0) R P)), (0, .ref h), (1, .ref (a 0))]) hx hb dX6_posts_5 rfl hl (by decide) rfl (fun ls hl => ?_)
  refine lv_iload_n hx hb dX6_posts_6 rfl (lv_at hl 0 rfl) ?_
  refine lv_if_lt (tgt := 42) hx hb dX6_posts_7 (by decide) (fun c_7 => ?_) (fun c_7 => ?_)
  · skip
    have c_7n := Int32.not_le.mpr c_7
    refine lv_iload_n hx hb dX6_posts_42 rfl (lv_at hl 0 rfl) ?_
    have hP : va_P K.1 vwCl (mw K h a (hrow (hrow (hrow M 0 (M 0)) 9 E2) 10 (mcR (M 0) R P (M 10) 6))) H := hP
    have hD : va_D A (mw K h a (hrow (hrow (hrow M 0 (M 0)) 9 E2) 10 (mcR (M 0) R P (M 10) 6))) := hD
    have eR1 : (M 0) = mPost (M 0) R P := by (unfold mPost; first | rw [if_pos c_7] | rw [if_neg c_7])
    have hP : va_P K.1 vwCl (mw K h a (hrow (hrow (hrow M 0 (mPost (M 0) R P)) 9 E2) 10 (mcR (M 0) R P (M 10) 6))) H := by rw [← eR1]; exact hP
    have hD : va_D A (mw K h a (hrow (hrow (hrow M 0 (mPost (M 0) R P)) 9 E2) 10 (mcR (M 0) R P (M 10) 6))) := by rw [← eR1]; exact hD
    exact hend _ _ _ _ _ _ _ E2 hP hD hS (Nat.le_of_ble_eq_true rfl) (Nat.le_of_ble_eq_true rfl) (by rfl) dX6_posts_43
  · skip
    have c_7n := Int32.not_lt.mp c_7
    refine lv_aload_n hx hb dX6_posts_10 rfl (lv_at hl 2 rfl) ?_
    refine lv_bipush (v := (10 : Int32)) hx hb dX6_posts_11 (by decide) ?_
    refine lv_iconst (v := (1 : Int32)) hx hb dX6_posts_13 (by decide) ?_
    refine xi_st hx hb hK hP hD hS 1 (f := M 0) rfl 10 rfl (by omega) (by decide) (mw K h a (hrow (hrow (hrow M 0 (upd (M 0) 10 (1 : Int32))) 9 E2) 10 (mcR (M 0) R P (M 10) 6))) rfl dX6_posts_14 (fun H locs hP hD hS => ?_)
    refine lv_iconst (v := (0 : Int32)) hx hb dX6_posts_15 (by decide) ?_
    refine lv_istore_n (lv' := [(3, .int (0 : Int32)), (2, .int (mStr (M 0) R P)), (0, .ref h), (1, .ref (a 0))]) hx hb dX6_posts_16 rfl hl (by decide) rfl (fun ls hl => ?_)
    have lp17 : ∀ (n9 : Nat) (k : Nat) (H : Heap) (locs : List Loc) (ls : Array Slot), R - k < n9 → (k ≤ R) → va_P K.1 vwCl (mw K h a (hrow (hrow (hrow M 0 (poF (upd (M 0) 10 1) (M 0) R P k)) 9 E2) 10 (mcR (M 0) R P (M 10) 6))) H → va_D A (mw K h a (hrow (hrow (hrow M 0 (poF (upd (M 0) 10 1) (M 0) R P k)) 9 E2) 10 (mcR (M 0) R P (M 10) 6))) → va_S A s9.heap H locs → lv_has ls 4 [(0, .ref h), (1, .ref (a 0)), (2, .int (mStr (M 0) R P)), (3, .int (nI k))] → W p9 l e9 rm_X6_posts_n s9 m9 av9 below9 meth9 c9 H locs 0 0 Q9 (F0 m9 17 ls []) := by
      intro n9
      induction n9 with
      | zero => intro k H locs ls hmu hk hP hD hS hl; exact absurd hmu (Nat.not_lt_zero _)
      | succ n9 ih17 =>
        intro k H locs ls hmu hk hP hD hS hl
        refine lv_iload_n hx hb dX6_posts_17 rfl (lv_at hl 3 rfl) ?_
        refine lv_aload_n hx hb dX6_posts_18 rfl (lv_at hl 1 rfl) ?_
        refine lv_iconst (v := (3 : Int32)) hx hb dX6_posts_19 (by decide) ?_
        refine xi_ld hx hb hK hP 1 (f := (poF (upd (M 0) 10 1) (M 0) R P k)) rfl 3 rfl (by omega) (by decide) dX6_posts_20 ?_
        refine xn_icmp_ge (tgt := 42) hx hb k R rfl (km_po (by decide) (mk_un (by omega) hR0)) (by omega) (by omega) dX6_posts_21 (by decide) (fun c_21 => ?_) (fun c_21 => ?_)
        · skip
          have hk9 : R = k := (show k = R from by omega).symm
          subst hk9
          refine lv_iload_n hx hb dX6_posts_42 rfl (lv_at hl 2 rfl) ?_
          have eR2 : (poF (upd (M 0) 10 1) (M 0) R P R) = mPost (M 0) R P := by (unfold mPost; first | rw [if_pos c_7] | rw [if_neg c_7])
          rw [eR2] at hP hD
          exact hend _ _ _ _ _ _ _ E2 hP hD hS (Nat.le_of_ble_eq_true rfl) (Nat.le_of_ble_eq_true rfl) (by rfl) dX6_posts_43
        · skip
          refine lv_aload_n hx hb dX6_posts_24 rfl (lv_at hl 1 rfl) ?_
          refine lv_bipush (v := (24 : Int32)) hx hb dX6_posts_25 (by decide) ?_
          refine lv_iload_n hx hb dX6_posts_27 rfl (lv_at hl 3 rfl) ?_
          refine lv_iadd hx hb dX6_posts_28 ?_
          refine lv_aload_n hx hb dX6_posts_29 rfl (lv_at hl 0 rfl) ?_
          refine va_get (ci := 6) (v := .ref (a 10)) (C := RX6) (T := TX6) (N := 14) hx hb hts hi6 hown hK hP 0 rfl rfl 10 (by decide) lk32 (fun _ h9 => h9) rfl dX6_posts_30 ?_
          refine lv_iload_n hx hb dX6_posts_33 rfl (lv_at hl 3 rfl) ?_
          refine xi_ld hx hb hK hP 8 (f := (mcR (M 0) R P (M 10) 6)) rfl k rfl (by omega) (by decide) dX6_posts_34 ?_
          refine xi_st hx hb hK hP hD hS 1 (f := (poF (upd (M 0) 10 1) (M 0) R P k)) rfl (24 + k) (nn_add rfl rfl) (by omega) (by decide) (mw K h a (hrow (hrow (hrow M 0 (upd (poF (upd (M 0) 10 1) (M 0) R P k) (24 + k) ((mcR (M 0) R P (M 10) 6) k))) 9 E2) 10 (mcR (M 0) R P (M 10) 6))) rfl dX6_posts_35 (fun H locs hP hD hS => ?_)
          refine lv_iinc (v := nI (k + 1)) (lv' := [(3, .int (nI (k + 1))), (0, .ref h), (1, .ref (a 0)), (2, .int (mStr (M 0) R P))]) hx hb dX6_posts_36 hl (k := 3) rfl (nI_1 _) (by decide) rfl (fun ls hl => ?_)
          refine lv_goto (tgt := 17) hx hb dX6_posts_39 (by decide) ?_
          have eR3 : (upd (poF (upd (M 0) 10 1) (M 0) R P k) (24 + k) ((mcR (M 0) R P (M 10) 6) k)) = poF (upd (M 0) 10 1) (M 0) R P (k + 1) := by exact po_s (mcR_at (by omega))
          rw [eR3] at hP hD
          have hP : va_P K.1 vwCl (mw K h a (hrow (hrow (hrow M 0 (poF (upd (M 0) 10 1) (M 0) R P (k + 1))) 9 E2) 10 (mcR (M 0) R P (M 10) 6))) H := hP
          have hD : va_D A (mw K h a (hrow (hrow (hrow M 0 (poF (upd (M 0) 10 1) (M 0) R P (k + 1))) 9 E2) 10 (mcR (M 0) R P (M 10) 6))) := hD
          exact ih17 (k + 1) _ _ _ (by omega) (by first | omega | assumption | first | rfl | (simp [c_7, c_7n, c_21]; done) | omega) hP hD hS (lv_cons (lv_at hl 1 rfl) (lv_cons (lv_at hl 2 rfl) (lv_cons (lv_at hl 3 rfl) (lv_cons (lv_at hl 0 rfl) (lv_nil hl)))))
    have eR4 : (upd (M 0) 10 (1 : Int32)) = poF (upd (M 0) 10 1) (M 0) R P 0 := by exact po_0 _ _ _ _
    rw [eR4] at hP hD
    have hP : va_P K.1 vwCl (mw K h a (hrow (hrow (hrow M 0 (poF (upd (M 0) 10 1) (M 0) R P 0)) 9 E2) 10 (mcR (M 0) R P (M 10) 6))) H := hP
    have hD : va_D A (mw K h a (hrow (hrow (hrow M 0 (poF (upd (M 0) 10 1) (M 0) R P 0)) 9 E2) 10 (mcR (M 0) R P (M 10) 6))) := hD
    exact lp17 _ 0 _ _ _ (Nat.lt_succ_self _) (by first | omega | assumption | first | rfl | (simp [c_7, c_7n]; done) | omega) hP hD hS (lv_cons (lv_at hl 2 rfl) (lv_cons (lv_at hl 3 rfl) (lv_cons (lv_at hl 1 rfl) (lv_cons (lv_is (lv_at hl 0 rfl) (show (0 : Int32) = nI 0 by first | rfl | (simp [c_7, c_7n]; done) | omega)) (lv_nil hl)))))

abbrev rm_X6_castFor_n : Room := { frames := 4, cells := 0, slots := 0, locals := 96 }
set_option maxHeartbeats 4000000 in
set_option maxRecDepth 100000 in
theorem c_X6_castFor_n (l : Launch) (K : KX) (h : Nat) (a : Nat → Nat) (M : HV) (r : Nat) (hr : r < 6) (R : Nat) (hR0 : M 0 3 = nI R) (hR0b : R ≤ 6) (P : Nat) (hP0 : M 0 4 = nI P) (hP0b : P ≤ 10) (hok : mOK (M 0) R P) (sz : Nat) : Met l yX6_castFor wsX6_castFor rm_X6_castFor_n (va_Pc [.ref h, .ref (a 0), .int (nI r)] (xPre K (mw K h a M) sz)) (va_Qi (fun (r9 : Int32) (u9 : Nat → Int32) => r9 = csG (M 0) R P r) (fun u9 t => xPost K (va_A (mw K h a M) sz) (mw K h a (hrow (hrow M 9 u9) 10 (mcR (M 0) R P (M 10) 6))) t) (va_A (mw K h a M) sz)) 0 0 (va_A (mw K h a M) sz) := by
  refine xw_starti (cc := cX6_castFor) (maxL := 3) (by decide) rfl (Nat.le_of_ble_eq_true rfl) ?_
  intro p9 e9 s9 m9 below9 meth9 c9 H locs ls A av9 Q9 hx hb hlocks hml hname hts hown hK hP hD hS hA hsz hend hl
  have hown : s9.vm.findClass RX6 = some m9.cls := hown
  have hl : lv_has ls 3 [(0, .ref h), (1, .ref (a 0)), (2, .int (nI r))] := hl
  have hi6 : ∀ w ∈ u_ws RX6 TX6 14, w ∈ wsX6_castFor := by decide +kernel
  have lk32 := hts (.fieldLink RX6 32 "StandInsModel" "cast" "[I") (by decide +kernel)
  refine lv_aload_n hx hb dX6_castFor_0 rfl (lv_at hl 0 rfl) ?_
  refine lv_aload_n hx hb dX6_castFor_1 rfl (lv_at hl 1 rfl) ?_
  refine xw_Vi (As := [.ref (a 0)]) (rest := []) (wc := mw K h a M) (wr := (List.filterMap (fun i => (mw K h a M : va_W)[i]?) ([] : List Nat))) ⟨hx, hb, hml, hown, hts⟩ (c_X6_casts_n l K h a M R hR0 (by omega) P hP0 (by omega) (by first | assumption | omega) H.size) (cwV 1 hts gX6_castFor_X6_casts rfl rfl rfl (by decide +kernel) ⟨Nat.le_of_ble_eq_true rfl, Nat.le_of_ble_eq_true rfl⟩) hK hP hD hS hA [0, 1, 2, 3, 4, 5, 6, 7, 8, 9] [] [0, 1, 2, 3, 4, 5, 6, 7, 8, 9] rfl rfl rfl (fun E2 => mw K h a (hrow (hrow M 9 E2) 10 (mcR (M 0) R P (M 10) 6))) (fun _ => rfl) 0 6 rfl rfl rfl rfl hl.1 rfl (Nat.le_of_ble_eq_true rfl) (Nat.le_of_ble_eq_true rfl) (Nat.le_of_ble_eq_true rfl) dX6_castFor_2 (fun r2 E2 H locs hq2 hP hD hS => ?_)
  have hP : va_P K.1 vwCl (mw K h a (hrow (hrow M 9 E2) 10 (mcR (M 0) R P (M 10) 6))) H := hP
  have hD : va_D A (mw K h a (hrow (hrow M 9 E2) 10 (mcR (M 0) R P (M 10) 6))) := hD
  subst hq2
  refine lv_pop hx hb dX6_castFor_5 rfl ?_
  refine lv_aload_n hx hb dX6_castFor_6 rfl (lv_at hl 0 rfl) ?_
  refine va_get (ci := 6) (v := .ref (a 10)) (C := RX6) (T := TX6) (N := 14) hx hb hts hi6 hown hK hP 0 rfl rfl 10 (by decide) lk32 (fun _ h9 => h9) rfl dX6_castFor_7 ?_
  refine lv_iload_n hx hb dX6_castFor_10 rfl (lv_at hl 2 rfl) ?_
  refine xi_ld hx hb hK hP 8 (f := (mcR (M 0) R P (M 10) 6)) rfl r rfl (by omega) (by decide) dX6_castFor_11 ?_
  exact hend _ _ _ _ _ _ _ E2 hP hD hS (Nat.le_of_ble_eq_true rfl) (Nat.le_of_ble_eq_true rfl) (by exact mcR_at hr) dX6_castFor_12

abbrev rm_X6_plays_t : Room := { frames := 4, cells := 0, slots := 0, locals := 96 }
set_option maxHeartbeats 4000000 in
set_option maxRecDepth 100000 in
theorem c_X6_plays_t (l : Launch) (K : KX) (h : Nat) (a : Nat → Nat) (M : HV) (R : Nat) (hR0 : M 1 3 = nI R) (hR0b : R ≤ 6) (P : Nat) (hP0 : M 1 4 = nI P) (hP0b : P ≤ 10) (hok : mOK (M 1) R P) (sz : Nat) : Met l yX6_plays wsX6_plays rm_X6_plays_t (va_Pc [.ref h, .ref (a 1)] (xPre K (mw K h a M) sz)) (va_Qi (fun (r9 : Int32) (u9 : Nat → Int32) => r9 = mPaid (M 1) R P) (fun u9 t => xPost K (va_A (mw K h a M) sz) (mw K h a (hrow (hrow (hrow M 1 (mPlay (M 1) R P)) 9 u9) 10 (mcR (M 1) R P (M 10) 6))) t) (va_A (mw K h a M) sz)) 0 0 (va_A (mw K h a M) sz) := by
  refine xw_starti (cc := cX6_plays) (maxL := 8) (by decide) rfl (Nat.le_of_ble_eq_true rfl) ?_
  intro p9 e9 s9 m9 below9 meth9 c9 H locs ls A av9 Q9 hx hb hlocks hml hname hts hown hK hP hD hS hA hsz hend hl
  have hown : s9.vm.findClass RX6 = some m9.cls := hown
  have hl : lv_has ls 8 [(0, .ref h), (1, .ref (a 1))] := hl
  have hi6 : ∀ w ∈ u_ws RX6 TX6 14, w ∈ wsX6_plays := by decide +kernel
  have lk32 := hts (.fieldLink RX6 32 "StandInsModel" "cast" "[I") (by decide +kernel)
  refine lv_aload_n hx hb dX6_plays_0 rfl (lv_at hl 0 rfl) ?_
  refine lv_aload_n hx hb dX6_plays_1 rfl (lv_at hl 1 rfl) ?_
  refine xw_Vi (As := [.ref (a 1)]) (rest := []) (wc := mw K h a M) (wr := (List.filterMap (fun i => (mw K h a M : va_W)[i]?) ([] : List Nat))) ⟨hx, hb, hml, hown, hts⟩ (c_X6_casts_t l K h a M R hR0 (by omega) P hP0 (by omega) (by first | assumption | omega) H.size) (cwV 1 hts gX6_plays_X6_casts rfl rfl rfl (by decide +kernel) ⟨Nat.le_of_ble_eq_true rfl, Nat.le_of_ble_eq_true rfl⟩) hK hP hD hS hA [0, 1, 2, 3, 4, 5, 6, 7, 8, 9] [] [0, 1, 2, 3, 4, 5, 6, 7, 8, 9] rfl rfl rfl (fun E2 => mw K h a (hrow (hrow M 9 E2) 10 (mcR (M 1) R P (M 10) 6))) (fun _ => rfl) 0 6 rfl rfl rfl rfl hl.1 rfl (Nat.le_of_ble_eq_true rfl) (Nat.le_of_ble_eq_true rfl) (Nat.le_of_ble_eq_true rfl) dX6_plays_2 (fun r2 E2 H locs hq2 hP hD hS => ?_)
  have hP : va_P K.1 vwCl (mw K h a (hrow (hrow M 9 E2) 10 (mcR (M 1) R P (M 10) 6))) H := hP
  have hD : va_D A (mw K h a (hrow (hrow M 9 E2) 10 (mcR (M 1) R P (M 10) 6))) := hD
  subst hq2
  refine lv_istore_n (lv' := [(2, .int (mStr (M 1) R P)), (0, .ref h), (1, .ref (a 1))]) hx hb dX6_plays_5 rfl hl (by decide) rfl (fun ls hl => ?_)
  refine lv_iconst (v := (0 : Int32)) hx hb dX6_plays_6 (by decide) ?_
  refine lv_istore_n (lv' := [(3, .int (0 : Int32)), (2, .int (mStr (M 1) R P)), (0, .ref h), (1, .ref (a 1))]) hx hb dX6_plays_7 rfl hl (by decide) rfl (fun ls hl => ?_)
  refine lv_iconst (v := (0 : Int32)) hx hb dX6_plays_8 (by decide) ?_
  refine lv_istore (lv' := [(4, .int (0 : Int32)), (3, .int (0 : Int32)), (2, .int (mStr (M 1) R P)), (0, .ref h), (1, .ref (a 1))]) hx hb dX6_plays_9 hl (by decide) rfl (fun ls hl => ?_)
  refine lv_iconst (v := (0 : Int32)) hx hb dX6_plays_11 (by decide) ?_
  refine lv_istore (lv' := [(5, .int (0 : Int32)), (4, .int (0 : Int32)), (3, .int (0 : Int32)), (2, .int (mStr (M 1) R P)), (0, .ref h), (1, .ref (a 1))]) hx hb dX6_plays_12 hl (by decide) rfl (fun ls hl => ?_)
  have lp14 : ∀ (n9 : Nat) (k : Nat) (H : Heap) (locs : List Loc) (ls : Array Slot), R - k < n9 → (k ≤ R) → (k = 0 ∨ ¬ mStr (M 1) R P < 0) → va_P K.1 vwCl (mw K h a (hrow (hrow (hrow M 1 (mPf (M 1) R P k)) 9 E2) 10 (mcR (M 1) R P (M 10) 6))) H → va_D A (mw K h a (hrow (hrow (hrow M 1 (mPf (M 1) R P k)) 9 E2) 10 (mcR (M 1) R P (M 10) 6))) → va_S A s9.heap H locs → lv_has ls 8 [(0, .ref h), (1, .ref (a 1)), (2, .int (mStr (M 1) R P)), (3, .int (mPd (M 1) R P k)), (4, .int (nI (tkM (M 1) R P k))), (5, .int (nI k))] → W p9 l e9 rm_X6_plays_t s9 m9 av9 below9 meth9 c9 H locs 0 0 Q9 (F0 m9 14 ls []) := by
    intro n9
    induction n9 with
    | zero => intro k H locs ls hmu hk hs0 hP hD hS hl; exact absurd hmu (Nat.not_lt_zero _)
    | succ n9 ih14 =>
      intro k H locs ls hmu hk hs0 hP hD hS hl
      refine lv_iload hx hb dX6_plays_14 (lv_at hl 5 rfl) ?_
      refine lv_aload_n hx hb dX6_plays_16 rfl (lv_at hl 1 rfl) ?_
      refine lv_iconst (v := (3 : Int32)) hx hb dX6_plays_17 (by decide) ?_
      refine xi_ld hx hb hK hP 2 (f := (mPf (M 1) R P k)) rfl 3 rfl (by omega) (by decide) dX6_plays_18 ?_
      refine xn_icmp_ge (tgt := 130) hx hb k R rfl (km_pf (by decide) hR0) (by omega) (by omega) dX6_plays_19 (by decide) (fun c_19 => ?_) (fun c_19 => ?_)
      · skip
        have hk9 : mK (M 1) R P = k := (show k = mK (M 1) R P from mK_1 hk hs0 c_19).symm
        subst hk9
        refine lv_iconst (v := (0 : Int32)) hx hb dX6_plays_130 (by decide) ?_
        refine lv_istore (lv' := [(5, .int (0 : Int32)), (0, .ref h), (1, .ref (a 1)), (2, .int (mStr (M 1) R P)), (3, .int (mPd (M 1) R P (mK (M 1) R P))), (4, .int (nI (tkM (M 1) R P (mK (M 1) R P))))]) hx hb dX6_plays_131 hl (by decide) rfl (fun ls hl => ?_)
        have lp133 : ∀ (n9 : Nat) (p : Nat) (H : Heap) (locs : List Loc) (ls : Array Slot), P - p < n9 → (p ≤ P) → va_P K.1 vwCl (mw K h a (hrow (hrow (hrow M 1 (rnF (mPf (M 1) R P (mK (M 1) R P)) (tkM (M 1) R P (mK (M 1) R P)) p)) 9 E2) 10 (mcR (M 1) R P (M 10) 6))) H → va_D A (mw K h a (hrow (hrow (hrow M 1 (rnF (mPf (M 1) R P (mK (M 1) R P)) (tkM (M 1) R P (mK (M 1) R P)) p)) 9 E2) 10 (mcR (M 1) R P (M 10) 6))) → va_S A s9.heap H locs → lv_has ls 8 [(0, .ref h), (1, .ref (a 1)), (2, .int (mStr (M 1) R P)), (3, .int (mPd (M 1) R P (mK (M 1) R P))), (4, .int (nI (tkM (M 1) R P (mK (M 1) R P)))), (5, .int (nI p))] → W p9 l e9 rm_X6_plays_t s9 m9 av9 below9 meth9 c9 H locs 0 0 Q9 (F0 m9 133 ls []) := by
          intro n9
          induction n9 with
          | zero => intro p H locs ls hmu hp9 hP hD hS hl; exact absurd hmu (Nat.not_lt_zero _)
          | succ n9 ih133 =>
            intro p H locs ls hmu hp9 hP hD hS hl
            have htk := tkM_lt (N := (M 1)) (R := R) hP0b (mK (M 1) R P)
            have hpw := pw_le hP0b
            refine lv_iload hx hb dX6_plays_133 (lv_at hl 5 rfl) ?_
            refine lv_aload_n hx hb dX6_plays_135 rfl (lv_at hl 1 rfl) ?_
            refine lv_iconst (v := (4 : Int32)) hx hb dX6_plays_136 (by decide) ?_
            refine xi_ld hx hb hK hP 2 (f := (rnF (mPf (M 1) R P (mK (M 1) R P)) (tkM (M 1) R P (mK (M 1) R P)) p)) rfl 4 rfl (by omega) (by decide) dX6_plays_137 ?_
            refine xn_icmp_ge (tgt := 178) hx hb p P rfl (km_rn (by decide) (km_pf (by decide) hP0)) (by omega) (by omega) dX6_plays_138 (by decide) (fun c_138 => ?_) (fun c_138 => ?_)
            · skip
              have hp9 : P = p := (show p = P from by omega).symm
              subst hp9
              refine lv_aload_n hx hb dX6_plays_178 rfl (lv_at hl 1 rfl) ?_
              refine lv_iload_n hx hb dX6_plays_179 rfl (lv_at hl 2 rfl) ?_
              refine lv_if_ge (tgt := 187) hx hb dX6_plays_180 (by decide) (fun c_180 => ?_) (fun c_180 => ?_)
              · skip
                have c_180n := Int32.not_lt.mpr c_180
                refine lv_iconst (v := (1 : Int32)) hx hb dX6_plays_187 (by decide) ?_
                refine lv_dup2_11 hx hb dX6_plays_188 rfl rfl ?_
                refine xi_ld hx hb hK hP 2 (f := (rnF (mPf (M 1) R P (mK (M 1) R P)) (tkM (M 1) R P (mK (M 1) R P)) P)) rfl 1 rfl (by omega) (by decide) dX6_plays_189 ?_
                refine lv_iconst (v := (1 : Int32)) hx hb dX6_plays_190 (by decide) ?_
                refine lv_iadd hx hb dX6_plays_191 ?_
                refine xi_st hx hb hK hP hD hS 2 (f := (rnF (mPf (M 1) R P (mK (M 1) R P)) (tkM (M 1) R P (mK (M 1) R P)) P)) rfl 1 rfl (by omega) (by decide) (mw K h a (hrow (hrow (hrow M 1 (upd (rnF (mPf (M 1) R P (mK (M 1) R P)) (tkM (M 1) R P (mK (M 1) R P)) P) 1 (((rnF (mPf (M 1) R P (mK (M 1) R P)) (tkM (M 1) R P (mK (M 1) R P)) P) 1) + (1 : Int32)))) 9 E2) 10 (mcR (M 1) R P (M 10) 6))) rfl dX6_plays_192 (fun H locs hP hD hS => ?_)
                refine lv_aload_n hx hb dX6_plays_193 rfl (lv_at hl 1 rfl) ?_
                refine xw_Sv (As := [.ref (a 1)]) (rest := []) (wc := [((a 1), aI K 190 (upd (rnF (mPf (M 1) R P (mK (M 1) R P)) (tkM (M 1) R P (mK (M 1) R P)) P) 1 (((rnF (mPf (M 1) R P (mK (M 1) R P)) (tkM (M 1) R P (mK (M 1) R P)) P) 1) + (1 : Int32))))]) (wr := (List.filterMap (fun i => (mw K h a (hrow (hrow (hrow M 1 (upd (rnF (mPf (M 1) R P (mK (M 1) R P)) (tkM (M 1) R P (mK (M 1) R P)) P) 1 (((rnF (mPf (M 1) R P (mK (M 1) R P)) (tkM (M 1) R P (mK (M 1) R P)) P) 1) + (1 : Int32)))) 9 E2) 10 (mcR (M 1) R P (M 10) 6)) : va_W)[i]?) ([0, 1, 3, 4, 5, 6, 7, 8, 9] : List Nat))) ⟨hx, hb, hml, hown, hts⟩ (c_X6_nextDay l K (a 1) (upd (rnF (mPf (M 1) R P (mK (M 1) R P)) (tkM (M 1) R P (mK (M 1) R P)) P) 1 (((rnF (mPf (M 1) R P (mK (M 1) R P)) (tkM (M 1) R P (mK (M 1) R P)) P) 1) + (1 : Int32))) H.size) (va_cwS 1 hts gX6_plays_X6_nextDay rfl rfl rfl (by decide +kernel) ⟨Nat.le_of_ble_eq_true rfl, Nat.le_of_ble_eq_true rfl⟩) hK hP hD hS hA [2] [0, 1, 3, 4, 5, 6, 7, 8, 9] [0, 1, 9, 2, 3, 4, 5, 6, 7, 8] rfl rfl rfl (fun _u => mw K h a (hrow (hrow (hrow M 1 (mNx (upd (rnF (mPf (M 1) R P (mK (M 1) R P)) (tkM (M 1) R P (mK (M 1) R P)) P) 1 (((rnF (mPf (M 1) R P (mK (M 1) R P)) (tkM (M 1) R P (mK (M 1) R P)) P) 1) + (1 : Int32))))) 9 E2) 10 (mcR (M 1) R P (M 10) 6))) (fun _ => rfl) rfl hl.1 rfl (Nat.le_of_ble_eq_true rfl) (Nat.le_of_ble_eq_true rfl) (Nat.le_of_ble_eq_true rfl) dX6_plays_194 (fun _ H locs hq194 hP hD hS => ?_)
                have hP : va_P K.1 vwCl (mw K h a (hrow (hrow (hrow M 1 (mNx (upd (rnF (mPf (M 1) R P (mK (M 1) R P)) (tkM (M 1) R P (mK (M 1) R P)) P) 1 (((rnF (mPf (M 1) R P (mK (M 1) R P)) (tkM (M 1) R P (mK (M 1) R P)) P) 1) + (1 : Int32))))) 9 E2) 10 (mcR (M 1) R P (M 10) 6))) H := hP
                have hD : va_D A (mw K h a (hrow (hrow (hrow M 1 (mNx (upd (rnF (mPf (M 1) R P (mK (M 1) R P)) (tkM (M 1) R P (mK (M 1) R P)) P) 1 (((rnF (mPf (M 1) R P (mK (M 1) R P)) (tkM (M 1) R P (mK (M 1) R P)) P) 1) + (1 : Int32))))) 9 E2) 10 (mcR (M 1) R P (M 10) 6))) := hD
                refine lv_iload_n hx hb dX6_plays_197 rfl (lv_at hl 2 rfl) ?_
                refine lv_if_ge (tgt := 205) hx hb dX6_plays_198 (by decide) (fun c_198 => ?_) (fun c_198 => ?_)
                · skip
                  have c_198n := Int32.not_lt.mpr c_198
                  refine lv_iload_n hx hb dX6_plays_205 rfl (lv_at hl 3 rfl) ?_
                  have eR1 : (mNx (upd (rnF (mPf (M 1) R P (mK (M 1) R P)) (tkM (M 1) R P (mK (M 1) R P)) P) 1 (((rnF (mPf (M 1) R P (mK (M 1) R P)) (tkM (M 1) R P (mK (M 1) R P)) P) 1) + (1 : Int32)))) = mPlay (M 1) R P := by (unfold mPlay; first | rw [if_pos c_180n] | rw [if_neg c_180n])
                  rw [eR1] at hP hD
                  exact hend _ _ _ _ _ _ _ E2 hP hD hS (Nat.le_of_ble_eq_true rfl) (Nat.le_of_ble_eq_true rfl) (by (unfold mPaid; first | exact absurd c_180n c_198n | exact absurd c_198n c_180n | rw [if_pos c_198n] | (rw [if_neg c_198n]; unfold mK; rw [if_neg c_198n]))) dX6_plays_206
                · skip
                  have c_198n := Int32.not_le.mp c_198
                  refine lv_iconst (v := (-1 : Int32)) hx hb dX6_plays_201 (by decide) ?_
                  refine lv_goto (tgt := 206) hx hb dX6_plays_202 (by decide) ?_
                  have eR2 : (mNx (upd (rnF (mPf (M 1) R P (mK (M 1) R P)) (tkM (M 1) R P (mK (M 1) R P)) P) 1 (((rnF (mPf (M 1) R P (mK (M 1) R P)) (tkM (M 1) R P (mK (M 1) R P)) P) 1) + (1 : Int32)))) = mPlay (M 1) R P := by (unfold mPlay; first | rw [if_pos c_180n] | rw [if_neg c_180n])
                  rw [eR2] at hP hD
                  exact hend _ _ _ _ _ _ _ E2 hP hD hS (Nat.le_of_ble_eq_true rfl) (Nat.le_of_ble_eq_true rfl) (by (unfold mPaid; first | exact absurd c_180n c_198n | exact absurd c_198n c_180n | rw [if_pos c_198n] | (rw [if_neg c_198n]; unfold mK; rw [if_neg c_198n]))) dX6_plays_206
              · skip
                have c_180n := Int32.not_le.mp c_180
                refine lv_iconst (v := (2 : Int32)) hx hb dX6_plays_183 (by decide) ?_
                refine lv_goto (tgt := 188) hx hb dX6_plays_184 (by decide) ?_
                refine lv_dup2_11 hx hb dX6_plays_188 rfl rfl ?_
                refine xi_ld hx hb hK hP 2 (f := (rnF (mPf (M 1) R P (mK (M 1) R P)) (tkM (M 1) R P (mK (M 1) R P)) P)) rfl 2 rfl (by omega) (by decide) dX6_plays_189 ?_
                refine lv_iconst (v := (1 : Int32)) hx hb dX6_plays_190 (by decide) ?_
                refine lv_iadd hx hb dX6_plays_191 ?_
                refine xi_st hx hb hK hP hD hS 2 (f := (rnF (mPf (M 1) R P (mK (M 1) R P)) (tkM (M 1) R P (mK (M 1) R P)) P)) rfl 2 rfl (by omega) (by decide) (mw K h a (hrow (hrow (hrow M 1 (upd (rnF (mPf (M 1) R P (mK (M 1) R P)) (tkM (M 1) R P (mK (M 1) R P)) P) 2 (((rnF (mPf (M 1) R P (mK (M 1) R P)) (tkM (M 1) R P (mK (M 1) R P)) P) 2) + (1 : Int32)))) 9 E2) 10 (mcR (M 1) R P (M 10) 6))) rfl dX6_plays_192 (fun H locs hP hD hS => ?_)
                refine lv_aload_n hx hb dX6_plays_193 rfl (lv_at hl 1 rfl) ?_
                refine xw_Sv (As := [.ref (a 1)]) (rest := []) (wc := [((a 1), aI K 190 (upd (rnF (mPf (M 1) R P (mK (M 1) R P)) (tkM (M 1) R P (mK (M 1) R P)) P) 2 (((rnF (mPf (M 1) R P (mK (M 1) R P)) (tkM (M 1) R P (mK (M 1) R P)) P) 2) + (1 : Int32))))]) (wr := (List.filterMap (fun i => (mw K h a (hrow (hrow (hrow M 1 (upd (rnF (mPf (M 1) R P (mK (M 1) R P)) (tkM (M 1) R P (mK (M 1) R P)) P) 2 (((rnF (mPf (M 1) R P (mK (M 1) R P)) (tkM (M 1) R P (mK (M 1) R P)) P) 2) + (1 : Int32)))) 9 E2) 10 (mcR (M 1) R P (M 10) 6)) : va_W)[i]?) ([0, 1, 3, 4, 5, 6, 7, 8, 9] : List Nat))) ⟨hx, hb, hml, hown, hts⟩ (c_X6_nextDay l K (a 1) (upd (rnF (mPf (M 1) R P (mK (M 1) R P)) (tkM (M 1) R P (mK (M 1) R P)) P) 2 (((rnF (mPf (M 1) R P (mK (M 1) R P)) (tkM (M 1) R P (mK (M 1) R P)) P) 2) + (1 : Int32))) H.size) (va_cwS 1 hts gX6_plays_X6_nextDay rfl rfl rfl (by decide +kernel) ⟨Nat.le_of_ble_eq_true rfl, Nat.le_of_ble_eq_true rfl⟩) hK hP hD hS hA [2] [0, 1, 3, 4, 5, 6, 7, 8, 9] [0, 1, 9, 2, 3, 4, 5, 6, 7, 8] rfl rfl rfl (fun _u => mw K h a (hrow (hrow (hrow M 1 (mNx (upd (rnF (mPf (M 1) R P (mK (M 1) R P)) (tkM (M 1) R P (mK (M 1) R P)) P) 2 (((rnF (mPf (M 1) R P (mK (M 1) R P)) (tkM (M 1) R P (mK (M 1) R P)) P) 2) + (1 : Int32))))) 9 E2) 10 (mcR (M 1) R P (M 10) 6))) (fun _ => rfl) rfl hl.1 rfl (Nat.le_of_ble_eq_true rfl) (Nat.le_of_ble_eq_true rfl) (Nat.le_of_ble_eq_true rfl) dX6_plays_194 (fun _ H locs hq194 hP hD hS => ?_)
                have hP : va_P K.1 vwCl (mw K h a (hrow (hrow (hrow M 1 (mNx (upd (rnF (mPf (M 1) R P (mK (M 1) R P)) (tkM (M 1) R P (mK (M 1) R P)) P) 2 (((rnF (mPf (M 1) R P (mK (M 1) R P)) (tkM (M 1) R P (mK (M 1) R P)) P) 2) + (1 : Int32))))) 9 E2) 10 (mcR (M 1) R P (M 10) 6))) H := hP
                have hD : va_D A (mw K h a (hrow (hrow (hrow M 1 (mNx (upd (rnF (mPf (M 1) R P (mK (M 1) R P)) (tkM (M 1) R P (mK (M 1) R P)) P) 2 (((rnF (mPf (M 1) R P (mK (M 1) R P)) (tkM (M 1) R P (mK (M 1) R P)) P) 2) + (1 : Int32))))) 9 E2) 10 (mcR (M 1) R P (M 10) 6))) := hD
                refine lv_iload_n hx hb dX6_plays_197 rfl (lv_at hl 2 rfl) ?_
                refine lv_if_ge (tgt := 205) hx hb dX6_plays_198 (by decide) (fun c_198 => ?_) (fun c_198 => ?_)
                · skip
                  have c_198n := Int32.not_lt.mpr c_198
                  refine lv_iload_n hx hb dX6_plays_205 rfl (lv_at hl 3 rfl) ?_
                  have eR3 : (mNx (upd (rnF (mPf (M 1) R P (mK (M 1) R P)) (tkM (M 1) R P (mK (M 1) R P)) P) 2 (((rnF (mPf (M 1) R P (mK (M 1) R P)) (tkM (M 1) R P (mK (M 1) R P)) P) 2) + (1 : Int32)))) = mPlay (M 1) R P := by (unfold mPlay; first | rw [if_pos c_180n] | rw [if_neg c_180n])
                  rw [eR3] at hP hD
                  exact hend _ _ _ _ _ _ _ E2 hP hD hS (Nat.le_of_ble_eq_true rfl) (Nat.le_of_ble_eq_true rfl) (by (unfold mPaid; first | exact absurd c_180n c_198n | exact absurd c_198n c_180n | rw [if_pos c_198n] | (rw [if_neg c_198n]; unfold mK; rw [if_neg c_198n]))) dX6_plays_206
                · skip
                  have c_198n := Int32.not_le.mp c_198
                  refine lv_iconst (v := (-1 : Int32)) hx hb dX6_plays_201 (by decide) ?_
                  refine lv_goto (tgt := 206) hx hb dX6_plays_202 (by decide) ?_
                  have eR4 : (mNx (upd (rnF (mPf (M 1) R P (mK (M 1) R P)) (tkM (M 1) R P (mK (M 1) R P)) P) 2 (((rnF (mPf (M 1) R P (mK (M 1) R P)) (tkM (M 1) R P (mK (M 1) R P)) P) 2) + (1 : Int32)))) = mPlay (M 1) R P := by (unfold mPlay; first | rw [if_pos c_180n] | rw [if_neg c_180n])
                  rw [eR4] at hP hD
                  exact hend _ _ _ _ _ _ _ E2 hP hD hS (Nat.le_of_ble_eq_true rfl) (Nat.le_of_ble_eq_true rfl) (by (unfold mPaid; first | exact absurd c_180n c_198n | exact absurd c_198n c_180n | rw [if_pos c_198n] | (rw [if_neg c_198n]; unfold mK; rw [if_neg c_198n]))) dX6_plays_206
            · skip
              refine lv_aload_n hx hb dX6_plays_141 rfl (lv_at hl 1 rfl) ?_
              refine lv_bipush (v := (40 : Int32)) hx hb dX6_plays_142 (by decide) ?_
              refine lv_iload hx hb dX6_plays_144 (lv_at hl 5 rfl) ?_
              refine lv_iadd hx hb dX6_plays_146 ?_
              refine lv_iload hx hb dX6_plays_147 (lv_at hl 4 rfl) ?_
              refine lv_iload hx hb dX6_plays_149 (lv_at hl 5 rfl) ?_
              refine lv_ishr hx hb dX6_plays_151 ?_
              refine lv_iconst (v := (1 : Int32)) hx hb dX6_plays_152 (by decide) ?_
              refine lv_iand hx hb dX6_plays_153 ?_
              refine lv_iconst (v := (1 : Int32)) hx hb dX6_plays_154 (by decide) ?_
              refine lv_icmp_ne (tgt := 170) hx hb dX6_plays_155 (by decide) (fun c_155 => ?_) (fun c_155 => ?_)
              · skip
                refine lv_iconst (v := (0 : Int32)) hx hb dX6_plays_170 (by decide) ?_
                refine xi_st hx hb hK hP hD hS 2 (f := (rnF (mPf (M 1) R P (mK (M 1) R P)) (tkM (M 1) R P (mK (M 1) R P)) p)) rfl (40 + p) (nn_add rfl rfl) (by omega) (by decide) (mw K h a (hrow (hrow (hrow M 1 (upd (rnF (mPf (M 1) R P (mK (M 1) R P)) (tkM (M 1) R P (mK (M 1) R P)) p) (40 + p) (0 : Int32))) 9 E2) 10 (mcR (M 1) R P (M 10) 6))) rfl dX6_plays_171 (fun H locs hP hD hS => ?_)
                refine lv_iinc (v := nI (p + 1)) (lv' := [(5, .int (nI (p + 1))), (0, .ref h), (1, .ref (a 1)), (2, .int (mStr (M 1) R P)), (3, .int (mPd (M 1) R P (mK (M 1) R P))), (4, .int (nI (tkM (M 1) R P (mK (M 1) R P))))]) hx hb dX6_plays_172 hl (k := 5) rfl (nI_1 _) (by decide) rfl (fun ls hl => ?_)
                refine lv_goto (tgt := 133) hx hb dX6_plays_175 (by decide) ?_
                have eR5 : (upd (rnF (mPf (M 1) R P (mK (M 1) R P)) (tkM (M 1) R P (mK (M 1) R P)) p) (40 + p) (0 : Int32)) = rnF (mPf (M 1) R P (mK (M 1) R P)) (tkM (M 1) R P (mK (M 1) R P)) (p + 1) := by first | exact rn_s (by rw [if_pos ((isIn_iff (by omega) (by omega)).mp c_155), rn_k]) | exact rn_s (by rw [if_neg (fun z => c_155 ((isIn_iff (by omega) (by omega)).mpr z))])
                rw [eR5] at hP hD
                have hP : va_P K.1 vwCl (mw K h a (hrow (hrow (hrow M 1 (rnF (mPf (M 1) R P (mK (M 1) R P)) (tkM (M 1) R P (mK (M 1) R P)) (p + 1))) 9 E2) 10 (mcR (M 1) R P (M 10) 6))) H := hP
                have hD : va_D A (mw K h a (hrow (hrow (hrow M 1 (rnF (mPf (M 1) R P (mK (M 1) R P)) (tkM (M 1) R P (mK (M 1) R P)) (p + 1))) 9 E2) 10 (mcR (M 1) R P (M 10) 6))) := hD
                exact ih133 (p + 1) _ _ _ (by omega) (by first | omega | assumption | first | rfl | (simp [c_19, c_138, c_155]; done) | omega) hP hD hS (lv_cons (lv_at hl 1 rfl) (lv_cons (lv_at hl 2 rfl) (lv_cons (lv_at hl 3 rfl) (lv_cons (lv_at hl 4 rfl) (lv_cons (lv_at hl 5 rfl) (lv_cons (lv_at hl 0 rfl) (lv_nil hl)))))))
              · skip
                refine lv_aload_n hx hb dX6_plays_158 rfl (lv_at hl 1 rfl) ?_
                refine lv_bipush (v := (40 : Int32)) hx hb dX6_plays_159 (by decide) ?_
                refine lv_iload hx hb dX6_plays_161 (lv_at hl 5 rfl) ?_
                refine lv_iadd hx hb dX6_plays_163 ?_
                refine xi_ld hx hb hK hP 2 (f := (rnF (mPf (M 1) R P (mK (M 1) R P)) (tkM (M 1) R P (mK (M 1) R P)) p)) rfl (40 + p) (nn_add rfl rfl) (by omega) (by decide) dX6_plays_164 ?_
                refine lv_iconst (v := (1 : Int32)) hx hb dX6_plays_165 (by decide) ?_
                refine lv_iadd hx hb dX6_plays_166 ?_
                refine lv_goto (tgt := 171) hx hb dX6_plays_167 (by decide) ?_
                refine xi_st hx hb hK hP hD hS 2 (f := (rnF (mPf (M 1) R P (mK (M 1) R P)) (tkM (M 1) R P (mK (M 1) R P)) p)) rfl (40 + p) (nn_add rfl rfl) (by omega) (by decide) (mw K h a (hrow (hrow (hrow M 1 (upd (rnF (mPf (M 1) R P (mK (M 1) R P)) (tkM (M 1) R P (mK (M 1) R P)) p) (40 + p) (((rnF (mPf (M 1) R P (mK (M 1) R P)) (tkM (M 1) R P (mK (M 1) R P)) p) (40 + p)) + (1 : Int32)))) 9 E2) 10 (mcR (M 1) R P (M 10) 6))) rfl dX6_plays_171 (fun H locs hP hD hS => ?_)
                refine lv_iinc (v := nI (p + 1)) (lv' := [(5, .int (nI (p + 1))), (0, .ref h), (1, .ref (a 1)), (2, .int (mStr (M 1) R P)), (3, .int (mPd (M 1) R P (mK (M 1) R P))), (4, .int (nI (tkM (M 1) R P (mK (M 1) R P))))]) hx hb dX6_plays_172 hl (k := 5) rfl (nI_1 _) (by decide) rfl (fun ls hl => ?_)
                refine lv_goto (tgt := 133) hx hb dX6_plays_175 (by decide) ?_
                have eR6 : (upd (rnF (mPf (M 1) R P (mK (M 1) R P)) (tkM (M 1) R P (mK (M 1) R P)) p) (40 + p) (((rnF (mPf (M 1) R P (mK (M 1) R P)) (tkM (M 1) R P (mK (M 1) R P)) p) (40 + p)) + (1 : Int32))) = rnF (mPf (M 1) R P (mK (M 1) R P)) (tkM (M 1) R P (mK (M 1) R P)) (p + 1) := by first | exact rn_s (by rw [if_pos ((isIn_iff (by omega) (by omega)).mp c_155), rn_k]) | exact rn_s (by rw [if_neg (fun z => c_155 ((isIn_iff (by omega) (by omega)).mpr z))])
                rw [eR6] at hP hD
                have hP : va_P K.1 vwCl (mw K h a (hrow (hrow (hrow M 1 (rnF (mPf (M 1) R P (mK (M 1) R P)) (tkM (M 1) R P (mK (M 1) R P)) (p + 1))) 9 E2) 10 (mcR (M 1) R P (M 10) 6))) H := hP
                have hD : va_D A (mw K h a (hrow (hrow (hrow M 1 (rnF (mPf (M 1) R P (mK (M 1) R P)) (tkM (M 1) R P (mK (M 1) R P)) (p + 1))) 9 E2) 10 (mcR (M 1) R P (M 10) 6))) := hD
                exact ih133 (p + 1) _ _ _ (by omega) (by first | omega | assumption | first | rfl | (simp [c_19, c_138, c_155]; done) | omega) hP hD hS (lv_cons (lv_at hl 1 rfl) (lv_cons (lv_at hl 2 rfl) (lv_cons (lv_at hl 3 rfl) (lv_cons (lv_at hl 4 rfl) (lv_cons (lv_at hl 5 rfl) (lv_cons (lv_at hl 0 rfl) (lv_nil hl)))))))
        have eR7 : (mPf (M 1) R P (mK (M 1) R P)) = rnF (mPf (M 1) R P (mK (M 1) R P)) (tkM (M 1) R P (mK (M 1) R P)) 0 := by exact rn_0 _ _
        have hP : va_P K.1 vwCl (mw K h a (hrow (hrow (hrow M 1 (rnF (mPf (M 1) R P (mK (M 1) R P)) (tkM (M 1) R P (mK (M 1) R P)) 0)) 9 E2) 10 (mcR (M 1) R P (M 10) 6))) H := by rw [← eR7]; exact hP
        have hD : va_D A (mw K h a (hrow (hrow (hrow M 1 (rnF (mPf (M 1) R P (mK (M 1) R P)) (tkM (M 1) R P (mK (M 1) R P)) 0)) 9 E2) 10 (mcR (M 1) R P (M 10) 6))) := by rw [← eR7]; exact hD
        have hP : va_P K.1 vwCl (mw K h a (hrow (hrow (hrow M 1 (rnF (mPf (M 1) R P (mK (M 1) R P)) (tkM (M 1) R P (mK (M 1) R P)) 0)) 9 E2) 10 (mcR (M 1) R P (M 10) 6))) H := hP
        have hD : va_D A (mw K h a (hrow (hrow (hrow M 1 (rnF (mPf (M 1) R P (mK (M 1) R P)) (tkM (M 1) R P (mK (M 1) R P)) 0)) 9 E2) 10 (mcR (M 1) R P (M 10) 6))) := hD
        exact lp133 _ 0 _ _ _ (Nat.lt_succ_self _) (by first | omega | assumption | first | rfl | (simp [c_19]; done) | omega) hP hD hS (lv_cons (lv_at hl 1 rfl) (lv_cons (lv_at hl 2 rfl) (lv_cons (lv_at hl 3 rfl) (lv_cons (lv_at hl 4 rfl) (lv_cons (lv_at hl 5 rfl) (lv_cons (lv_is (lv_at hl 0 rfl) (show (0 : Int32) = nI 0 by first | rfl | (simp [c_19]; done) | omega)) (lv_nil hl)))))))
      · skip
        refine lv_iload_n hx hb dX6_plays_22 rfl (lv_at hl 2 rfl) ?_
        refine lv_if_lt (tgt := 130) hx hb dX6_plays_23 (by decide) (fun c_23 => ?_) (fun c_23 => ?_)
        · skip
          have c_23n := Int32.not_le.mpr c_23
          have hk9 : mK (M 1) R P = k := (show k = mK (M 1) R P from mK_2 hs0 c_23).symm
          subst hk9
          refine lv_iconst (v := (0 : Int32)) hx hb dX6_plays_130 (by decide) ?_
          refine lv_istore (lv' := [(5, .int (0 : Int32)), (0, .ref h), (1, .ref (a 1)), (2, .int (mStr (M 1) R P)), (3, .int (mPd (M 1) R P (mK (M 1) R P))), (4, .int (nI (tkM (M 1) R P (mK (M 1) R P))))]) hx hb dX6_plays_131 hl (by decide) rfl (fun ls hl => ?_)
          have lp133 : ∀ (n9 : Nat) (p : Nat) (H : Heap) (locs : List Loc) (ls : Array Slot), P - p < n9 → (p ≤ P) → va_P K.1 vwCl (mw K h a (hrow (hrow (hrow M 1 (rnF (mPf (M 1) R P (mK (M 1) R P)) (tkM (M 1) R P (mK (M 1) R P)) p)) 9 E2) 10 (mcR (M 1) R P (M 10) 6))) H → va_D A (mw K h a (hrow (hrow (hrow M 1 (rnF (mPf (M 1) R P (mK (M 1) R P)) (tkM (M 1) R P (mK (M 1) R P)) p)) 9 E2) 10 (mcR (M 1) R P (M 10) 6))) → va_S A s9.heap H locs → lv_has ls 8 [(0, .ref h), (1, .ref (a 1)), (2, .int (mStr (M 1) R P)), (3, .int (mPd (M 1) R P (mK (M 1) R P))), (4, .int (nI (tkM (M 1) R P (mK (M 1) R P)))), (5, .int (nI p))] → W p9 l e9 rm_X6_plays_t s9 m9 av9 below9 meth9 c9 H locs 0 0 Q9 (F0 m9 133 ls []) := by
            intro n9
            induction n9 with
            | zero => intro p H locs ls hmu hp9 hP hD hS hl; exact absurd hmu (Nat.not_lt_zero _)
            | succ n9 ih133 =>
              intro p H locs ls hmu hp9 hP hD hS hl
              have htk := tkM_lt (N := (M 1)) (R := R) hP0b (mK (M 1) R P)
              have hpw := pw_le hP0b
              refine lv_iload hx hb dX6_plays_133 (lv_at hl 5 rfl) ?_
              refine lv_aload_n hx hb dX6_plays_135 rfl (lv_at hl 1 rfl) ?_
              refine lv_iconst (v := (4 : Int32)) hx hb dX6_plays_136 (by decide) ?_
              refine xi_ld hx hb hK hP 2 (f := (rnF (mPf (M 1) R P (mK (M 1) R P)) (tkM (M 1) R P (mK (M 1) R P)) p)) rfl 4 rfl (by omega) (by decide) dX6_plays_137 ?_
              refine xn_icmp_ge (tgt := 178) hx hb p P rfl (km_rn (by decide) (km_pf (by decide) hP0)) (by omega) (by omega) dX6_plays_138 (by decide) (fun c_138 => ?_) (fun c_138 => ?_)
              · skip
                have hp9 : P = p := (show p = P from by omega).symm
                subst hp9
                refine lv_aload_n hx hb dX6_plays_178 rfl (lv_at hl 1 rfl) ?_
                refine lv_iload_n hx hb dX6_plays_179 rfl (lv_at hl 2 rfl) ?_
                refine lv_if_ge (tgt := 187) hx hb dX6_plays_180 (by decide) (fun c_180 => ?_) (fun c_180 => ?_)
                · skip
                  have c_180n := Int32.not_lt.mpr c_180
                  refine lv_iconst (v := (1 : Int32)) hx hb dX6_plays_187 (by decide) ?_
                  refine lv_dup2_11 hx hb dX6_plays_188 rfl rfl ?_
                  refine xi_ld hx hb hK hP 2 (f := (rnF (mPf (M 1) R P (mK (M 1) R P)) (tkM (M 1) R P (mK (M 1) R P)) P)) rfl 1 rfl (by omega) (by decide) dX6_plays_189 ?_
                  refine lv_iconst (v := (1 : Int32)) hx hb dX6_plays_190 (by decide) ?_
                  refine lv_iadd hx hb dX6_plays_191 ?_
                  refine xi_st hx hb hK hP hD hS 2 (f := (rnF (mPf (M 1) R P (mK (M 1) R P)) (tkM (M 1) R P (mK (M 1) R P)) P)) rfl 1 rfl (by omega) (by decide) (mw K h a (hrow (hrow (hrow M 1 (upd (rnF (mPf (M 1) R P (mK (M 1) R P)) (tkM (M 1) R P (mK (M 1) R P)) P) 1 (((rnF (mPf (M 1) R P (mK (M 1) R P)) (tkM (M 1) R P (mK (M 1) R P)) P) 1) + (1 : Int32)))) 9 E2) 10 (mcR (M 1) R P (M 10) 6))) rfl dX6_plays_192 (fun H locs hP hD hS => ?_)
                  refine lv_aload_n hx hb dX6_plays_193 rfl (lv_at hl 1 rfl) ?_
                  refine xw_Sv (As := [.ref (a 1)]) (rest := []) (wc := [((a 1), aI K 190 (upd (rnF (mPf (M 1) R P (mK (M 1) R P)) (tkM (M 1) R P (mK (M 1) R P)) P) 1 (((rnF (mPf (M 1) R P (mK (M 1) R P)) (tkM (M 1) R P (mK (M 1) R P)) P) 1) + (1 : Int32))))]) (wr := (List.filterMap (fun i => (mw K h a (hrow (hrow (hrow M 1 (upd (rnF (mPf (M 1) R P (mK (M 1) R P)) (tkM (M 1) R P (mK (M 1) R P)) P) 1 (((rnF (mPf (M 1) R P (mK (M 1) R P)) (tkM (M 1) R P (mK (M 1) R P)) P) 1) + (1 : Int32)))) 9 E2) 10 (mcR (M 1) R P (M 10) 6)) : va_W)[i]?) ([0, 1, 3, 4, 5, 6, 7, 8, 9] : List Nat))) ⟨hx, hb, hml, hown, hts⟩ (c_X6_nextDay l K (a 1) (upd (rnF (mPf (M 1) R P (mK (M 1) R P)) (tkM (M 1) R P (mK (M 1) R P)) P) 1 (((rnF (mPf (M 1) R P (mK (M 1) R P)) (tkM (M 1) R P (mK (M 1) R P)) P) 1) + (1 : Int32))) H.size) (va_cwS 1 hts gX6_plays_X6_nextDay rfl rfl rfl (by decide +kernel) ⟨Nat.le_of_ble_eq_true rfl, Nat.le_of_ble_eq_true rfl⟩) hK hP hD hS hA [2] [0, 1, 3, 4, 5, 6, 7, 8, 9] [0, 1, 9, 2, 3, 4, 5, 6, 7, 8] rfl rfl rfl (fun _u => mw K h a (hrow (hrow (hrow M 1 (mNx (upd (rnF (mPf (M 1) R P (mK (M 1) R P)) (tkM (M 1) R P (mK (M 1) R P)) P) 1 (((rnF (mPf (M 1) R P (mK (M 1) R P)) (tkM (M 1) R P (mK (M 1) R P)) P) 1) + (1 : Int32))))) 9 E2) 10 (mcR (M 1) R P (M 10) 6))) (fun _ => rfl) rfl hl.1 rfl (Nat.le_of_ble_eq_true rfl) (Nat.le_of_ble_eq_true rfl) (Nat.le_of_ble_eq_true rfl) dX6_plays_194 (fun _ H locs hq194 hP hD hS => ?_)
                  have hP : va_P K.1 vwCl (mw K h a (hrow (hrow (hrow M 1 (mNx (upd (rnF (mPf (M 1) R P (mK (M 1) R P)) (tkM (M 1) R P (mK (M 1) R P)) P) 1 (((rnF (mPf (M 1) R P (mK (M 1) R P)) (tkM (M 1) R P (mK (M 1) R P)) P) 1) + (1 : Int32))))) 9 E2) 10 (mcR (M 1) R P (M 10) 6))) H := hP
                  have hD : va_D A (mw K h a (hrow (hrow (hrow M 1 (mNx (upd (rnF (mPf (M 1) R P (mK (M 1) R P)) (tkM (M 1) R P (mK (M 1) R P)) P) 1 (((rnF (mPf (M 1) R P (mK (M 1) R P)) (tkM (M 1) R P (mK (M 1) R P)) P) 1) + (1 : Int32))))) 9 E2) 10 (mcR (M 1) R P (M 10) 6))) := hD
                  refine lv_iload_n hx hb dX6_plays_197 rfl (lv_at hl 2 rfl) ?_
                  refine lv_if_ge (tgt := 205) hx hb dX6_plays_198 (by decide) (fun c_198 => ?_) (fun c_198 => ?_)
                  · skip
                    have c_198n := Int32.not_lt.mpr c_198
                    refine lv_iload_n hx hb dX6_plays_205 rfl (lv_at hl 3 rfl) ?_
                    have eR8 : (mNx (upd (rnF (mPf (M 1) R P (mK (M 1) R P)) (tkM (M 1) R P (mK (M 1) R P)) P) 1 (((rnF (mPf (M 1) R P (mK (M 1) R P)) (tkM (M 1) R P (mK (M 1) R P)) P) 1) + (1 : Int32)))) = mPlay (M 1) R P := by (unfold mPlay; first | rw [if_pos c_180n] | rw [if_neg c_180n])
                    rw [eR8] at hP hD
                    exact hend _ _ _ _ _ _ _ E2 hP hD hS (Nat.le_of_ble_eq_true rfl) (Nat.le_of_ble_eq_true rfl) (by (unfold mPaid; first | exact absurd c_180n c_198n | exact absurd c_198n c_180n | rw [if_pos c_198n] | (rw [if_neg c_198n]; unfold mK; rw [if_neg c_198n]))) dX6_plays_206
                  · skip
                    have c_198n := Int32.not_le.mp c_198
                    refine lv_iconst (v := (-1 : Int32)) hx hb dX6_plays_201 (by decide) ?_
                    refine lv_goto (tgt := 206) hx hb dX6_plays_202 (by decide) ?_
                    have eR9 : (mNx (upd (rnF (mPf (M 1) R P (mK (M 1) R P)) (tkM (M 1) R P (mK (M 1) R P)) P) 1 (((rnF (mPf (M 1) R P (mK (M 1) R P)) (tkM (M 1) R P (mK (M 1) R P)) P) 1) + (1 : Int32)))) = mPlay (M 1) R P := by (unfold mPlay; first | rw [if_pos c_180n] | rw [if_neg c_180n])
                    rw [eR9] at hP hD
                    exact hend _ _ _ _ _ _ _ E2 hP hD hS (Nat.le_of_ble_eq_true rfl) (Nat.le_of_ble_eq_true rfl) (by (unfold mPaid; first | exact absurd c_180n c_198n | exact absurd c_198n c_180n | rw [if_pos c_198n] | (rw [if_neg c_198n]; unfold mK; rw [if_neg c_198n]))) dX6_plays_206
                · skip
                  have c_180n := Int32.not_le.mp c_180
                  refine lv_iconst (v := (2 : Int32)) hx hb dX6_plays_183 (by decide) ?_
                  refine lv_goto (tgt := 188) hx hb dX6_plays_184 (by decide) ?_
                  refine lv_dup2_11 hx hb dX6_plays_188 rfl rfl ?_
                  refine xi_ld hx hb hK hP 2 (f := (rnF (mPf (M 1) R P (mK (M 1) R P)) (tkM (M 1) R P (mK (M 1) R P)) P)) rfl 2 rfl (by omega) (by decide) dX6_plays_189 ?_
                  refine lv_iconst (v := (1 : Int32)) hx hb dX6_plays_190 (by decide) ?_
                  refine lv_iadd hx hb dX6_plays_191 ?_
                  refine xi_st hx hb hK hP hD hS 2 (f := (rnF (mPf (M 1) R P (mK (M 1) R P)) (tkM (M 1) R P (mK (M 1) R P)) P)) rfl 2 rfl (by omega) (by decide) (mw K h a (hrow (hrow (hrow M 1 (upd (rnF (mPf (M 1) R P (mK (M 1) R P)) (tkM (M 1) R P (mK (M 1) R P)) P) 2 (((rnF (mPf (M 1) R P (mK (M 1) R P)) (tkM (M 1) R P (mK (M 1) R P)) P) 2) + (1 : Int32)))) 9 E2) 10 (mcR (M 1) R P (M 10) 6))) rfl dX6_plays_192 (fun H locs hP hD hS => ?_)
                  refine lv_aload_n hx hb dX6_plays_193 rfl (lv_at hl 1 rfl) ?_
                  refine xw_Sv (As := [.ref (a 1)]) (rest := []) (wc := [((a 1), aI K 190 (upd (rnF (mPf (M 1) R P (mK (M 1) R P)) (tkM (M 1) R P (mK (M 1) R P)) P) 2 (((rnF (mPf (M 1) R P (mK (M 1) R P)) (tkM (M 1) R P (mK (M 1) R P)) P) 2) + (1 : Int32))))]) (wr := (List.filterMap (fun i => (mw K h a (hrow (hrow (hrow M 1 (upd (rnF (mPf (M 1) R P (mK (M 1) R P)) (tkM (M 1) R P (mK (M 1) R P)) P) 2 (((rnF (mPf (M 1) R P (mK (M 1) R P)) (tkM (M 1) R P (mK (M 1) R P)) P) 2) + (1 : Int32)))) 9 E2) 10 (mcR (M 1) R P (M 10) 6)) : va_W)[i]?) ([0, 1, 3, 4, 5, 6, 7, 8, 9] : List Nat))) ⟨hx, hb, hml, hown, hts⟩ (c_X6_nextDay l K (a 1) (upd (rnF (mPf (M 1) R P (mK (M 1) R P)) (tkM (M 1) R P (mK (M 1) R P)) P) 2 (((rnF (mPf (M 1) R P (mK (M 1) R P)) (tkM (M 1) R P (mK (M 1) R P)) P) 2) + (1 : Int32))) H.size) (va_cwS 1 hts gX6_plays_X6_nextDay rfl rfl rfl (by decide +kernel) ⟨Nat.le_of_ble_eq_true rfl, Nat.le_of_ble_eq_true rfl⟩) hK hP hD hS hA [2] [0, 1, 3, 4, 5, 6, 7, 8, 9] [0, 1, 9, 2, 3, 4, 5, 6, 7, 8] rfl rfl rfl (fun _u => mw K h a (hrow (hrow (hrow M 1 (mNx (upd (rnF (mPf (M 1) R P (mK (M 1) R P)) (tkM (M 1) R P (mK (M 1) R P)) P) 2 (((rnF (mPf (M 1) R P (mK (M 1) R P)) (tkM (M 1) R P (mK (M 1) R P)) P) 2) + (1 : Int32))))) 9 E2) 10 (mcR (M 1) R P (M 10) 6))) (fun _ => rfl) rfl hl.1 rfl (Nat.le_of_ble_eq_true rfl) (Nat.le_of_ble_eq_true rfl) (Nat.le_of_ble_eq_true rfl) dX6_plays_194 (fun _ H locs hq194 hP hD hS => ?_)
                  have hP : va_P K.1 vwCl (mw K h a (hrow (hrow (hrow M 1 (mNx (upd (rnF (mPf (M 1) R P (mK (M 1) R P)) (tkM (M 1) R P (mK (M 1) R P)) P) 2 (((rnF (mPf (M 1) R P (mK (M 1) R P)) (tkM (M 1) R P (mK (M 1) R P)) P) 2) + (1 : Int32))))) 9 E2) 10 (mcR (M 1) R P (M 10) 6))) H := hP
                  have hD : va_D A (mw K h a (hrow (hrow (hrow M 1 (mNx (upd (rnF (mPf (M 1) R P (mK (M 1) R P)) (tkM (M 1) R P (mK (M 1) R P)) P) 2 (((rnF (mPf (M 1) R P (mK (M 1) R P)) (tkM (M 1) R P (mK (M 1) R P)) P) 2) + (1 : Int32))))) 9 E2) 10 (mcR (M 1) R P (M 10) 6))) := hD
                  refine lv_iload_n hx hb dX6_plays_197 rfl (lv_at hl 2 rfl) ?_
                  refine lv_if_ge (tgt := 205) hx hb dX6_plays_198 (by decide) (fun c_198 => ?_) (fun c_198 => ?_)
                  · skip
                    have c_198n := Int32.not_lt.mpr c_198
                    refine lv_iload_n hx hb dX6_plays_205 rfl (lv_at hl 3 rfl) ?_
                    have eR10 : (mNx (upd (rnF (mPf (M 1) R P (mK (M 1) R P)) (tkM (M 1) R P (mK (M 1) R P)) P) 2 (((rnF (mPf (M 1) R P (mK (M 1) R P)) (tkM (M 1) R P (mK (M 1) R P)) P) 2) + (1 : Int32)))) = mPlay (M 1) R P := by (unfold mPlay; first | rw [if_pos c_180n] | rw [if_neg c_180n])
                    rw [eR10] at hP hD
                    exact hend _ _ _ _ _ _ _ E2 hP hD hS (Nat.le_of_ble_eq_true rfl) (Nat.le_of_ble_eq_true rfl) (by (unfold mPaid; first | exact absurd c_180n c_198n | exact absurd c_198n c_180n | rw [if_pos c_198n] | (rw [if_neg c_198n]; unfold mK; rw [if_neg c_198n]))) dX6_plays_206
                  · skip
                    have c_198n := Int32.not_le.mp c_198
                    refine lv_iconst (v := (-1 : Int32)) hx hb dX6_plays_201 (by decide) ?_
                    refine lv_goto (tgt := 206) hx hb dX6_plays_202 (by decide) ?_
                    have eR11 : (mNx (upd (rnF (mPf (M 1) R P (mK (M 1) R P)) (tkM (M 1) R P (mK (M 1) R P)) P) 2 (((rnF (mPf (M 1) R P (mK (M 1) R P)) (tkM (M 1) R P (mK (M 1) R P)) P) 2) + (1 : Int32)))) = mPlay (M 1) R P := by (unfold mPlay; first | rw [if_pos c_180n] | rw [if_neg c_180n])
                    rw [eR11] at hP hD
                    exact hend _ _ _ _ _ _ _ E2 hP hD hS (Nat.le_of_ble_eq_true rfl) (Nat.le_of_ble_eq_true rfl) (by (unfold mPaid; first | exact absurd c_180n c_198n | exact absurd c_198n c_180n | rw [if_pos c_198n] | (rw [if_neg c_198n]; unfold mK; rw [if_neg c_198n]))) dX6_plays_206
              · skip
                refine lv_aload_n hx hb dX6_plays_141 rfl (lv_at hl 1 rfl) ?_
                refine lv_bipush (v := (40 : Int32)) hx hb dX6_plays_142 (by decide) ?_
                refine lv_iload hx hb dX6_plays_144 (lv_at hl 5 rfl) ?_
                refine lv_iadd hx hb dX6_plays_146 ?_
                refine lv_iload hx hb dX6_plays_147 (lv_at hl 4 rfl) ?_
                refine lv_iload hx hb dX6_plays_149 (lv_at hl 5 rfl) ?_
                refine lv_ishr hx hb dX6_plays_151 ?_
                refine lv_iconst (v := (1 : Int32)) hx hb dX6_plays_152 (by decide) ?_
                refine lv_iand hx hb dX6_plays_153 ?_
                refine lv_iconst (v := (1 : Int32)) hx hb dX6_plays_154 (by decide) ?_
                refine lv_icmp_ne (tgt := 170) hx hb dX6_plays_155 (by decide) (fun c_155 => ?_) (fun c_155 => ?_)
                · skip
                  refine lv_iconst (v := (0 : Int32)) hx hb dX6_plays_170 (by decide) ?_
                  refine xi_st hx hb hK hP hD hS 2 (f := (rnF (mPf (M 1) R P (mK (M 1) R P)) (tkM (M 1) R P (mK (M 1) R P)) p)) rfl (40 + p) (nn_add rfl rfl) (by omega) (by decide) (mw K h a (hrow (hrow (hrow M 1 (upd (rnF (mPf (M 1) R P (mK (M 1) R P)) (tkM (M 1) R P (mK (M 1) R P)) p) (40 + p) (0 : Int32))) 9 E2) 10 (mcR (M 1) R P (M 10) 6))) rfl dX6_plays_171 (fun H locs hP hD hS => ?_)
                  refine lv_iinc (v := nI (p + 1)) (lv' := [(5, .int (nI (p + 1))), (0, .ref h), (1, .ref (a 1)), (2, .int (mStr (M 1) R P)), (3, .int (mPd (M 1) R P (mK (M 1) R P))), (4, .int (nI (tkM (M 1) R P (mK (M 1) R P))))]) hx hb dX6_plays_172 hl (k := 5) rfl (nI_1 _) (by decide) rfl (fun ls hl => ?_)
                  refine lv_goto (tgt := 133) hx hb dX6_plays_175 (by decide) ?_
                  have eR12 : (upd (rnF (mPf (M 1) R P (mK (M 1) R P)) (tkM (M 1) R P (mK (M 1) R P)) p) (40 + p) (0 : Int32)) = rnF (mPf (M 1) R P (mK (M 1) R P)) (tkM (M 1) R P (mK (M 1) R P)) (p + 1) := by first | exact rn_s (by rw [if_pos ((isIn_iff (by omega) (by omega)).mp c_155), rn_k]) | exact rn_s (by rw [if_neg (fun z => c_155 ((isIn_iff (by omega) (by omega)).mpr z))])
                  rw [eR12] at hP hD
                  have hP : va_P K.1 vwCl (mw K h a (hrow (hrow (hrow M 1 (rnF (mPf (M 1) R P (mK (M 1) R P)) (tkM (M 1) R P (mK (M 1) R P)) (p + 1))) 9 E2) 10 (mcR (M 1) R P (M 10) 6))) H := hP
                  have hD : va_D A (mw K h a (hrow (hrow (hrow M 1 (rnF (mPf (M 1) R P (mK (M 1) R P)) (tkM (M 1) R P (mK (M 1) R P)) (p + 1))) 9 E2) 10 (mcR (M 1) R P (M 10) 6))) := hD
                  exact ih133 (p + 1) _ _ _ (by omega) (by first | omega | assumption | first | rfl | (simp [c_19, c_23, c_23n, c_138, c_155]; done) | omega) hP hD hS (lv_cons (lv_at hl 1 rfl) (lv_cons (lv_at hl 2 rfl) (lv_cons (lv_at hl 3 rfl) (lv_cons (lv_at hl 4 rfl) (lv_cons (lv_at hl 5 rfl) (lv_cons (lv_at hl 0 rfl) (lv_nil hl)))))))
                · skip
                  refine lv_aload_n hx hb dX6_plays_158 rfl (lv_at hl 1 rfl) ?_
                  refine lv_bipush (v := (40 : Int32)) hx hb dX6_plays_159 (by decide) ?_
                  refine lv_iload hx hb dX6_plays_161 (lv_at hl 5 rfl) ?_
                  refine lv_iadd hx hb dX6_plays_163 ?_
                  refine xi_ld hx hb hK hP 2 (f := (rnF (mPf (M 1) R P (mK (M 1) R P)) (tkM (M 1) R P (mK (M 1) R P)) p)) rfl (40 + p) (nn_add rfl rfl) (by omega) (by decide) dX6_plays_164 ?_
                  refine lv_iconst (v := (1 : Int32)) hx hb dX6_plays_165 (by decide) ?_
                  refine lv_iadd hx hb dX6_plays_166 ?_
                  refine lv_goto (tgt := 171) hx hb dX6_plays_167 (by decide) ?_
                  refine xi_st hx hb hK hP hD hS 2 (f := (rnF (mPf (M 1) R P (mK (M 1) R P)) (tkM (M 1) R P (mK (M 1) R P)) p)) rfl (40 + p) (nn_add rfl rfl) (by omega) (by decide) (mw K h a (hrow (hrow (hrow M 1 (upd (rnF (mPf (M 1) R P (mK (M 1) R P)) (tkM (M 1) R P (mK (M 1) R P)) p) (40 + p) (((rnF (mPf (M 1) R P (mK (M 1) R P)) (tkM (M 1) R P (mK (M 1) R P)) p) (40 + p)) + (1 : Int32)))) 9 E2) 10 (mcR (M 1) R P (M 10) 6))) rfl dX6_plays_171 (fun H locs hP hD hS => ?_)
                  refine lv_iinc (v := nI (p + 1)) (lv' := [(5, .int (nI (p + 1))), (0, .ref h), (1, .ref (a 1)), (2, .int (mStr (M 1) R P)), (3, .int (mPd (M 1) R P (mK (M 1) R P))), (4, .int (nI (tkM (M 1) R P (mK (M 1) R P))))]) hx hb dX6_plays_172 hl (k := 5) rfl (nI_1 _) (by decide) rfl (fun ls hl => ?_)
                  refine lv_goto (tgt := 133) hx hb dX6_plays_175 (by decide) ?_
                  have eR13 : (upd (rnF (mPf (M 1) R P (mK (M 1) R P)) (tkM (M 1) R P (mK (M 1) R P)) p) (40 + p) (((rnF (mPf (M 1) R P (mK (M 1) R P)) (tkM (M 1) R P (mK (M 1) R P)) p) (40 + p)) + (1 : Int32))) = rnF (mPf (M 1) R P (mK (M 1) R P)) (tkM (M 1) R P (mK (M 1) R P)) (p + 1) := by first | exact rn_s (by rw [if_pos ((isIn_iff (by omega) (by omega)).mp c_155), rn_k]) | exact rn_s (by rw [if_neg (fun z => c_155 ((isIn_iff (by omega) (by omega)).mpr z))])
                  rw [eR13] at hP hD
                  have hP : va_P K.1 vwCl (mw K h a (hrow (hrow (hrow M 1 (rnF (mPf (M 1) R P (mK (M 1) R P)) (tkM (M 1) R P (mK (M 1) R P)) (p + 1))) 9 E2) 10 (mcR (M 1) R P (M 10) 6))) H := hP
                  have hD : va_D A (mw K h a (hrow (hrow (hrow M 1 (rnF (mPf (M 1) R P (mK (M 1) R P)) (tkM (M 1) R P (mK (M 1) R P)) (p + 1))) 9 E2) 10 (mcR (M 1) R P (M 10) 6))) := hD
                  exact ih133 (p + 1) _ _ _ (by omega) (by first | omega | assumption | first | rfl | (simp [c_19, c_23, c_23n, c_138, c_155]; done) | omega) hP hD hS (lv_cons (lv_at hl 1 rfl) (lv_cons (lv_at hl 2 rfl) (lv_cons (lv_at hl 3 rfl) (lv_cons (lv_at hl 4 rfl) (lv_cons (lv_at hl 5 rfl) (lv_cons (lv_at hl 0 rfl) (lv_nil hl)))))))
          have eR14 : (mPf (M 1) R P (mK (M 1) R P)) = rnF (mPf (M 1) R P (mK (M 1) R P)) (tkM (M 1) R P (mK (M 1) R P)) 0 := by exact rn_0 _ _
          have hP : va_P K.1 vwCl (mw K h a (hrow (hrow (hrow M 1 (rnF (mPf (M 1) R P (mK (M 1) R P)) (tkM (M 1) R P (mK (M 1) R P)) 0)) 9 E2) 10 (mcR (M 1) R P (M 10) 6))) H := by rw [← eR14]; exact hP
          have hD : va_D A (mw K h a (hrow (hrow (hrow M 1 (rnF (mPf (M 1) R P (mK (M 1) R P)) (tkM (M 1) R P (mK (M 1) R P)) 0)) 9 E2) 10 (mcR (M 1) R P (M 10) 6))) := by rw [← eR14]; exact hD
          have hP : va_P K.1 vwCl (mw K h a (hrow (hrow (hrow M 1 (rnF (mPf (M 1) R P (mK (M 1) R P)) (tkM (M 1) R P (mK (M 1) R P)) 0)) 9 E2) 10 (mcR (M 1) R P (M 10) 6))) H := hP
          have hD : va_D A (mw K h a (hrow (hrow (hrow M 1 (rnF (mPf (M 1) R P (mK (M 1) R P)) (tkM (M 1) R P (mK (M 1) R P)) 0)) 9 E2) 10 (mcR (M 1) R P (M 10) 6))) := hD
          exact lp133 _ 0 _ _ _ (Nat.lt_succ_self _) (by first | omega | assumption | first | rfl | (simp [c_19, c_23, c_23n]; done) | omega) hP hD hS (lv_cons (lv_at hl 1 rfl) (lv_cons (lv_at hl 2 rfl) (lv_cons (lv_at hl 3 rfl) (lv_cons (lv_at hl 4 rfl) (lv_cons (lv_at hl 5 rfl) (lv_cons (lv_is (lv_at hl 0 rfl) (show (0 : Int32) = nI 0 by first | rfl | (simp [c_19, c_23, c_23n]; done) | omega)) (lv_nil hl)))))))
        · skip
          have c_23n := Int32.not_lt.mp c_23
          have hpk := pkM_w (k := k) hR0b hP0b hok c_23 c_19
          refine lv_aload_n hx hb dX6_plays_26 rfl (lv_at hl 0 rfl) ?_
          refine va_get (ci := 6) (v := .ref (a 10)) (C := RX6) (T := TX6) (N := 14) hx hb hts hi6 hown hK hP 0 rfl rfl 10 (by decide) lk32 (fun _ h9 => h9) rfl dX6_plays_27 ?_
          refine lv_iload hx hb dX6_plays_30 (lv_at hl 5 rfl) ?_
          refine xi_ld hx hb hK hP 8 (f := (mcR (M 1) R P (M 10) 6)) rfl k rfl (by omega) (by decide) dX6_plays_32 ?_
          rw [show (mcR (M 1) R P (M 10) 6) k = nI (pkM (M 1) R P k) from (mcR_at (by omega)).trans hpk.2.1]
          refine lv_istore (lv' := [(6, .int (nI (pkM (M 1) R P k))), (0, .ref h), (1, .ref (a 1)), (2, .int (mStr (M 1) R P)), (3, .int (mPd (M 1) R P k)), (4, .int (nI (tkM (M 1) R P k))), (5, .int (nI k))]) hx hb dX6_plays_33 hl (by decide) rfl (fun ls hl => ?_)
          refine lv_aload_n hx hb dX6_plays_35 rfl (lv_at hl 2 rfl) ?_
          refine lv_iload hx hb dX6_plays_36 (lv_at hl 0 rfl) ?_
          refine lv_iload hx hb dX6_plays_38 (lv_at hl 6 rfl) ?_
          have hPc := P_sub (ws' := [((a 1), aI K 190 (mPf (M 1) R P k))]) hP [2] rfl
          refine xr_S (As := [.ref (a 1), .int (nI (pkM (M 1) R P k)), .int (nI k)]) (rest := []) ⟨hx, hb, hml, hown, hts⟩ (c_X6_payFor l K (a 1) (mPf (M 1) R P k) (pkM (M 1) R P k) (by omega) k (by omega)) (va_cwS 3 hts gX6_plays_X6_payFor rfl rfl rfl (by decide +kernel) ⟨Nat.le_of_ble_eq_true rfl, Nat.le_of_ble_eq_true rfl⟩) hK hPc rfl hl.1 rfl (Nat.le_of_ble_eq_true rfl) (Nat.le_of_ble_eq_true rfl) (Nat.le_of_ble_eq_true rfl) dX6_plays_40 ?_
          refine lv_istore (lv' := [(7, .int (mPay (mPf (M 1) R P k) (pkM (M 1) R P k) k)), (6, .int (nI (pkM (M 1) R P k))), (0, .ref h), (1, .ref (a 1)), (2, .int (mStr (M 1) R P)), (3, .int (mPd (M 1) R P k)), (4, .int (nI (tkM (M 1) R P k))), (5, .int (nI k))]) hx hb dX6_plays_43 hl (by decide) rfl (fun ls hl => ?_)
          refine lv_iload_n hx hb dX6_plays_45 rfl (lv_at hl 5 rfl) ?_
          refine lv_iload hx hb dX6_plays_46 (lv_at hl 0 rfl) ?_
          refine lv_iadd hx hb dX6_plays_48 ?_
          refine lv_istore_n (lv' := [(3, .int ((mPd (M 1) R P k) + (mPay (mPf (M 1) R P k) (pkM (M 1) R P k) k))), (7, .int (mPay (mPf (M 1) R P k) (pkM (M 1) R P k) k)), (6, .int (nI (pkM (M 1) R P k))), (0, .ref h), (1, .ref (a 1)), (2, .int (mStr (M 1) R P)), (4, .int (nI (tkM (M 1) R P k))), (5, .int (nI k))]) hx hb dX6_plays_49 rfl hl (by decide) rfl (fun ls hl => ?_)
          refine lv_iload hx hb dX6_plays_50 (lv_at hl 6 rfl) ?_
          refine lv_iconst (v := (1 : Int32)) hx hb dX6_plays_52 (by decide) ?_
          refine lv_iload hx hb dX6_plays_53 (lv_at hl 2 rfl) ?_
          refine lv_ishl hx hb dX6_plays_55 ?_
          refine lv_ior hx hb dX6_plays_56 ?_
          refine lv_istore (lv' := [(4, .int ((nI (tkM (M 1) R P k)) ||| ((1 : Int32) <<< ((nI (pkM (M 1) R P k)) &&& 31)))), (3, .int ((mPd (M 1) R P k) + (mPay (mPf (M 1) R P k) (pkM (M 1) R P k) k))), (7, .int (mPay (mPf (M 1) R P k) (pkM (M 1) R P k) k)), (6, .int (nI (pkM (M 1) R P k))), (0, .ref h), (1, .ref (a 1)), (2, .int (mStr (M 1) R P)), (5, .int (nI k))]) hx hb dX6_plays_57 hl (by decide) rfl (fun ls hl => ?_)
          refine lv_aload_n hx hb dX6_plays_59 rfl (lv_at hl 5 rfl) ?_
          refine lv_bipush (v := (30 : Int32)) hx hb dX6_plays_60 (by decide) ?_
          refine lv_iload hx hb dX6_plays_62 (lv_at hl 3 rfl) ?_
          refine lv_iadd hx hb dX6_plays_64 ?_
          refine lv_dup2_11 hx hb dX6_plays_65 rfl rfl ?_
          refine xi_ld hx hb hK hP 2 (f := (mPf (M 1) R P k)) rfl (30 + (pkM (M 1) R P k)) (nn_add rfl rfl) (by omega) (by decide) dX6_plays_66 ?_
          refine lv_iload hx hb dX6_plays_67 (lv_at hl 2 rfl) ?_
          refine lv_iadd hx hb dX6_plays_69 ?_
          refine xi_st hx hb hK hP hD hS 2 (f := (mPf (M 1) R P k)) rfl (30 + (pkM (M 1) R P k)) (nn_add rfl rfl) (by omega) (by decide) (mw K h a (hrow (hrow (hrow M 1 (upd (mPf (M 1) R P k) (30 + (pkM (M 1) R P k)) (((mPf (M 1) R P k) (30 + (pkM (M 1) R P k))) + (mPay (mPf (M 1) R P k) (pkM (M 1) R P k) k)))) 9 E2) 10 (mcR (M 1) R P (M 10) 6))) rfl dX6_plays_70 (fun H locs hP hD hS => ?_)
          refine lv_aload_n hx hb dX6_plays_71 rfl (lv_at hl 5 rfl) ?_
          refine lv_bipush (v := (60 : Int32)) hx hb dX6_plays_72 (by decide) ?_
          refine lv_iload hx hb dX6_plays_74 (lv_at hl 3 rfl) ?_
          refine lv_iadd hx hb dX6_plays_76 ?_
          refine lv_dup2_11 hx hb dX6_plays_77 rfl rfl ?_
          refine xi_ld hx hb hK hP 2 (f := (upd (mPf (M 1) R P k) (30 + (pkM (M 1) R P k)) (((mPf (M 1) R P k) (30 + (pkM (M 1) R P k))) + (mPay (mPf (M 1) R P k) (pkM (M 1) R P k) k)))) rfl (60 + (pkM (M 1) R P k)) (nn_add rfl rfl) (by omega) (by decide) dX6_plays_78 ?_
          refine lv_iconst (v := (1 : Int32)) hx hb dX6_plays_79 (by decide) ?_
          refine lv_iadd hx hb dX6_plays_80 ?_
          refine xi_st hx hb hK hP hD hS 2 (f := (upd (mPf (M 1) R P k) (30 + (pkM (M 1) R P k)) (((mPf (M 1) R P k) (30 + (pkM (M 1) R P k))) + (mPay (mPf (M 1) R P k) (pkM (M 1) R P k) k)))) rfl (60 + (pkM (M 1) R P k)) (nn_add rfl rfl) (by omega) (by decide) (mw K h a (hrow (hrow (hrow M 1 (upd (upd (mPf (M 1) R P k) (30 + (pkM (M 1) R P k)) (((mPf (M 1) R P k) (30 + (pkM (M 1) R P k))) + (mPay (mPf (M 1) R P k) (pkM (M 1) R P k) k))) (60 + (pkM (M 1) R P k)) (((upd (mPf (M 1) R P k) (30 + (pkM (M 1) R P k)) (((mPf (M 1) R P k) (30 + (pkM (M 1) R P k))) + (mPay (mPf (M 1) R P k) (pkM (M 1) R P k) k))) (60 + (pkM (M 1) R P k))) + (1 : Int32)))) 9 E2) 10 (mcR (M 1) R P (M 10) 6))) rfl dX6_plays_81 (fun H locs hP hD hS => ?_)
          refine lv_aload_n hx hb dX6_plays_82 rfl (lv_at hl 5 rfl) ?_
          refine lv_sipush (v := (130 : Int32)) hx hb dX6_plays_83 (by decide) ?_
          refine lv_bipush (v := (6 : Int32)) hx hb dX6_plays_86 (by decide) ?_
          refine lv_iload hx hb dX6_plays_88 (lv_at hl 3 rfl) ?_
          refine lv_imul hx hb dX6_plays_90 ?_
          refine lv_iadd hx hb dX6_plays_91 ?_
          refine lv_iload hx hb dX6_plays_92 (lv_at hl 7 rfl) ?_
          refine lv_iadd hx hb dX6_plays_94 ?_
          refine lv_dup2_11 hx hb dX6_plays_95 rfl rfl ?_
          refine xi_ld hx hb hK hP 2 (f := (upd (upd (mPf (M 1) R P k) (30 + (pkM (M 1) R P k)) (((mPf (M 1) R P k) (30 + (pkM (M 1) R P k))) + (mPay (mPf (M 1) R P k) (pkM (M 1) R P k) k))) (60 + (pkM (M 1) R P k)) (((upd (mPf (M 1) R P k) (30 + (pkM (M 1) R P k)) (((mPf (M 1) R P k) (30 + (pkM (M 1) R P k))) + (mPay (mPf (M 1) R P k) (pkM (M 1) R P k) k))) (60 + (pkM (M 1) R P k))) + (1 : Int32)))) rfl ((130 + (6 * (pkM (M 1) R P k))) + k) (nn_add (nn_add rfl (nn_mul rfl rfl)) rfl) (by omega) (by decide) dX6_plays_96 ?_
          refine lv_iconst (v := (1 : Int32)) hx hb dX6_plays_97 (by decide) ?_
          refine lv_iadd hx hb dX6_plays_98 ?_
          refine xi_st hx hb hK hP hD hS 2 (f := (upd (upd (mPf (M 1) R P k) (30 + (pkM (M 1) R P k)) (((mPf (M 1) R P k) (30 + (pkM (M 1) R P k))) + (mPay (mPf (M 1) R P k) (pkM (M 1) R P k) k))) (60 + (pkM (M 1) R P k)) (((upd (mPf (M 1) R P k) (30 + (pkM (M 1) R P k)) (((mPf (M 1) R P k) (30 + (pkM (M 1) R P k))) + (mPay (mPf (M 1) R P k) (pkM (M 1) R P k) k))) (60 + (pkM (M 1) R P k))) + (1 : Int32)))) rfl ((130 + (6 * (pkM (M 1) R P k))) + k) (nn_add (nn_add rfl (nn_mul rfl rfl)) rfl) (by omega) (by decide) (mw K h a (hrow (hrow (hrow M 1 (upd (upd (upd (mPf (M 1) R P k) (30 + (pkM (M 1) R P k)) (((mPf (M 1) R P k) (30 + (pkM (M 1) R P k))) + (mPay (mPf (M 1) R P k) (pkM (M 1) R P k) k))) (60 + (pkM (M 1) R P k)) (((upd (mPf (M 1) R P k) (30 + (pkM (M 1) R P k)) (((mPf (M 1) R P k) (30 + (pkM (M 1) R P k))) + (mPay (mPf (M 1) R P k) (pkM (M 1) R P k) k))) (60 + (pkM (M 1) R P k))) + (1 : Int32))) ((130 + (6 * (pkM (M 1) R P k))) + k) (((upd (upd (mPf (M 1) R P k) (30 + (pkM (M 1) R P k)) (((mPf (M 1) R P k) (30 + (pkM (M 1) R P k))) + (mPay (mPf (M 1) R P k) (pkM (M 1) R P k) k))) (60 + (pkM (M 1) R P k)) (((upd (mPf (M 1) R P k) (30 + (pkM (M 1) R P k)) (((mPf (M 1) R P k) (30 + (pkM (M 1) R P k))) + (mPay (mPf (M 1) R P k) (pkM (M 1) R P k) k))) (60 + (pkM (M 1) R P k))) + (1 : Int32))) ((130 + (6 * (pkM (M 1) R P k))) + k)) + (1 : Int32)))) 9 E2) 10 (mcR (M 1) R P (M 10) 6))) rfl dX6_plays_99 (fun H locs hP hD hS => ?_)
          refine lv_aload_n hx hb dX6_plays_100 rfl (lv_at hl 5 rfl) ?_
          refine lv_bipush (v := (11 : Int32)) hx hb dX6_plays_101 (by decide) ?_
          refine lv_dup2_11 hx hb dX6_plays_103 rfl rfl ?_
          refine xi_ld hx hb hK hP 2 (f := (upd (upd (upd (mPf (M 1) R P k) (30 + (pkM (M 1) R P k)) (((mPf (M 1) R P k) (30 + (pkM (M 1) R P k))) + (mPay (mPf (M 1) R P k) (pkM (M 1) R P k) k))) (60 + (pkM (M 1) R P k)) (((upd (mPf (M 1) R P k) (30 + (pkM (M 1) R P k)) (((mPf (M 1) R P k) (30 + (pkM (M 1) R P k))) + (mPay (mPf (M 1) R P k) (pkM (M 1) R P k) k))) (60 + (pkM (M 1) R P k))) + (1 : Int32))) ((130 + (6 * (pkM (M 1) R P k))) + k) (((upd (upd (mPf (M 1) R P k) (30 + (pkM (M 1) R P k)) (((mPf (M 1) R P k) (30 + (pkM (M 1) R P k))) + (mPay (mPf (M 1) R P k) (pkM (M 1) R P k) k))) (60 + (pkM (M 1) R P k)) (((upd (mPf (M 1) R P k) (30 + (pkM (M 1) R P k)) (((mPf (M 1) R P k) (30 + (pkM (M 1) R P k))) + (mPay (mPf (M 1) R P k) (pkM (M 1) R P k) k))) (60 + (pkM (M 1) R P k))) + (1 : Int32))) ((130 + (6 * (pkM (M 1) R P k))) + k)) + (1 : Int32)))) rfl 11 rfl (by omega) (by decide) dX6_plays_104 ?_
          refine lv_aload_n hx hb dX6_plays_105 rfl (lv_at hl 5 rfl) ?_
          refine lv_bipush (v := (18 : Int32)) hx hb dX6_plays_106 (by decide) ?_
          refine lv_iload hx hb dX6_plays_108 (lv_at hl 7 rfl) ?_
          refine lv_iadd hx hb dX6_plays_110 ?_
          refine xi_ld hx hb hK hP 2 (f := (upd (upd (upd (mPf (M 1) R P k) (30 + (pkM (M 1) R P k)) (((mPf (M 1) R P k) (30 + (pkM (M 1) R P k))) + (mPay (mPf (M 1) R P k) (pkM (M 1) R P k) k))) (60 + (pkM (M 1) R P k)) (((upd (mPf (M 1) R P k) (30 + (pkM (M 1) R P k)) (((mPf (M 1) R P k) (30 + (pkM (M 1) R P k))) + (mPay (mPf (M 1) R P k) (pkM (M 1) R P k) k))) (60 + (pkM (M 1) R P k))) + (1 : Int32))) ((130 + (6 * (pkM (M 1) R P k))) + k) (((upd (upd (mPf (M 1) R P k) (30 + (pkM (M 1) R P k)) (((mPf (M 1) R P k) (30 + (pkM (M 1) R P k))) + (mPay (mPf (M 1) R P k) (pkM (M 1) R P k) k))) (60 + (pkM (M 1) R P k)) (((upd (mPf (M 1) R P k) (30 + (pkM (M 1) R P k)) (((mPf (M 1) R P k) (30 + (pkM (M 1) R P k))) + (mPay (mPf (M 1) R P k) (pkM (M 1) R P k) k))) (60 + (pkM (M 1) R P k))) + (1 : Int32))) ((130 + (6 * (pkM (M 1) R P k))) + k)) + (1 : Int32)))) rfl (18 + k) (nn_add rfl rfl) (by omega) (by decide) dX6_plays_111 ?_
          refine lv_iload hx hb dX6_plays_112 (lv_at hl 3 rfl) ?_
          refine lv_icmp_ne (tgt := 121) hx hb dX6_plays_114 (by decide) (fun c_114 => ?_) (fun c_114 => ?_)
          · skip
            refine lv_iconst (v := (1 : Int32)) hx hb dX6_plays_121 (by decide) ?_
            refine lv_iadd hx hb dX6_plays_122 ?_
            refine xi_st hx hb hK hP hD hS 2 (f := (upd (upd (upd (mPf (M 1) R P k) (30 + (pkM (M 1) R P k)) (((mPf (M 1) R P k) (30 + (pkM (M 1) R P k))) + (mPay (mPf (M 1) R P k) (pkM (M 1) R P k) k))) (60 + (pkM (M 1) R P k)) (((upd (mPf (M 1) R P k) (30 + (pkM (M 1) R P k)) (((mPf (M 1) R P k) (30 + (pkM (M 1) R P k))) + (mPay (mPf (M 1) R P k) (pkM (M 1) R P k) k))) (60 + (pkM (M 1) R P k))) + (1 : Int32))) ((130 + (6 * (pkM (M 1) R P k))) + k) (((upd (upd (mPf (M 1) R P k) (30 + (pkM (M 1) R P k)) (((mPf (M 1) R P k) (30 + (pkM (M 1) R P k))) + (mPay (mPf (M 1) R P k) (pkM (M 1) R P k) k))) (60 + (pkM (M 1) R P k)) (((upd (mPf (M 1) R P k) (30 + (pkM (M 1) R P k)) (((mPf (M 1) R P k) (30 + (pkM (M 1) R P k))) + (mPay (mPf (M 1) R P k) (pkM (M 1) R P k) k))) (60 + (pkM (M 1) R P k))) + (1 : Int32))) ((130 + (6 * (pkM (M 1) R P k))) + k)) + (1 : Int32)))) rfl 11 rfl (by omega) (by decide) (mw K h a (hrow (hrow (hrow M 1 (upd (upd (upd (upd (mPf (M 1) R P k) (30 + (pkM (M 1) R P k)) (((mPf (M 1) R P k) (30 + (pkM (M 1) R P k))) + (mPay (mPf (M 1) R P k) (pkM (M 1) R P k) k))) (60 + (pkM (M 1) R P k)) (((upd (mPf (M 1) R P k) (30 + (pkM (M 1) R P k)) (((mPf (M 1) R P k) (30 + (pkM (M 1) R P k))) + (mPay (mPf (M 1) R P k) (pkM (M 1) R P k) k))) (60 + (pkM (M 1) R P k))) + (1 : Int32))) ((130 + (6 * (pkM (M 1) R P k))) + k) (((upd (upd (mPf (M 1) R P k) (30 + (pkM (M 1) R P k)) (((mPf (M 1) R P k) (30 + (pkM (M 1) R P k))) + (mPay (mPf (M 1) R P k) (pkM (M 1) R P k) k))) (60 + (pkM (M 1) R P k)) (((upd (mPf (M 1) R P k) (30 + (pkM (M 1) R P k)) (((mPf (M 1) R P k) (30 + (pkM (M 1) R P k))) + (mPay (mPf (M 1) R P k) (pkM (M 1) R P k) k))) (60 + (pkM (M 1) R P k))) + (1 : Int32))) ((130 + (6 * (pkM (M 1) R P k))) + k)) + (1 : Int32))) 11 (((upd (upd (upd (mPf (M 1) R P k) (30 + (pkM (M 1) R P k)) (((mPf (M 1) R P k) (30 + (pkM (M 1) R P k))) + (mPay (mPf (M 1) R P k) (pkM (M 1) R P k) k))) (60 + (pkM (M 1) R P k)) (((upd (mPf (M 1) R P k) (30 + (pkM (M 1) R P k)) (((mPf (M 1) R P k) (30 + (pkM (M 1) R P k))) + (mPay (mPf (M 1) R P k) (pkM (M 1) R P k) k))) (60 + (pkM (M 1) R P k))) + (1 : Int32))) ((130 + (6 * (pkM (M 1) R P k))) + k) (((upd (upd (mPf (M 1) R P k) (30 + (pkM (M 1) R P k)) (((mPf (M 1) R P k) (30 + (pkM (M 1) R P k))) + (mPay (mPf (M 1) R P k) (pkM (M 1) R P k) k))) (60 + (pkM (M 1) R P k)) (((upd (mPf (M 1) R P k) (30 + (pkM (M 1) R P k)) (((mPf (M 1) R P k) (30 + (pkM (M 1) R P k))) + (mPay (mPf (M 1) R P k) (pkM (M 1) R P k) k))) (60 + (pkM (M 1) R P k))) + (1 : Int32))) ((130 + (6 * (pkM (M 1) R P k))) + k)) + (1 : Int32))) 11) + (1 : Int32)))) 9 E2) 10 (mcR (M 1) R P (M 10) 6))) rfl dX6_plays_123 (fun H locs hP hD hS => ?_)
            refine lv_iinc (v := nI (k + 1)) (lv' := [(5, .int (nI (k + 1))), (4, .int ((nI (tkM (M 1) R P k)) ||| ((1 : Int32) <<< ((nI (pkM (M 1) R P k)) &&& 31)))), (3, .int ((mPd (M 1) R P k) + (mPay (mPf (M 1) R P k) (pkM (M 1) R P k) k))), (7, .int (mPay (mPf (M 1) R P k) (pkM (M 1) R P k) k)), (6, .int (nI (pkM (M 1) R P k))), (0, .ref h), (1, .ref (a 1)), (2, .int (mStr (M 1) R P))]) hx hb dX6_plays_124 hl (k := 7) rfl (nI_1 _) (by decide) rfl (fun ls hl => ?_)
            refine lv_goto (tgt := 14) hx hb dX6_plays_127 (by decide) ?_
            have eR15 : (upd (upd (upd (upd (mPf (M 1) R P k) (30 + (pkM (M 1) R P k)) (((mPf (M 1) R P k) (30 + (pkM (M 1) R P k))) + (mPay (mPf (M 1) R P k) (pkM (M 1) R P k) k))) (60 + (pkM (M 1) R P k)) (((upd (mPf (M 1) R P k) (30 + (pkM (M 1) R P k)) (((mPf (M 1) R P k) (30 + (pkM (M 1) R P k))) + (mPay (mPf (M 1) R P k) (pkM (M 1) R P k) k))) (60 + (pkM (M 1) R P k))) + (1 : Int32))) ((130 + (6 * (pkM (M 1) R P k))) + k) (((upd (upd (mPf (M 1) R P k) (30 + (pkM (M 1) R P k)) (((mPf (M 1) R P k) (30 + (pkM (M 1) R P k))) + (mPay (mPf (M 1) R P k) (pkM (M 1) R P k) k))) (60 + (pkM (M 1) R P k)) (((upd (mPf (M 1) R P k) (30 + (pkM (M 1) R P k)) (((mPf (M 1) R P k) (30 + (pkM (M 1) R P k))) + (mPay (mPf (M 1) R P k) (pkM (M 1) R P k) k))) (60 + (pkM (M 1) R P k))) + (1 : Int32))) ((130 + (6 * (pkM (M 1) R P k))) + k)) + (1 : Int32))) 11 (((upd (upd (upd (mPf (M 1) R P k) (30 + (pkM (M 1) R P k)) (((mPf (M 1) R P k) (30 + (pkM (M 1) R P k))) + (mPay (mPf (M 1) R P k) (pkM (M 1) R P k) k))) (60 + (pkM (M 1) R P k)) (((upd (mPf (M 1) R P k) (30 + (pkM (M 1) R P k)) (((mPf (M 1) R P k) (30 + (pkM (M 1) R P k))) + (mPay (mPf (M 1) R P k) (pkM (M 1) R P k) k))) (60 + (pkM (M 1) R P k))) + (1 : Int32))) ((130 + (6 * (pkM (M 1) R P k))) + k) (((upd (upd (mPf (M 1) R P k) (30 + (pkM (M 1) R P k)) (((mPf (M 1) R P k) (30 + (pkM (M 1) R P k))) + (mPay (mPf (M 1) R P k) (pkM (M 1) R P k) k))) (60 + (pkM (M 1) R P k)) (((upd (mPf (M 1) R P k) (30 + (pkM (M 1) R P k)) (((mPf (M 1) R P k) (30 + (pkM (M 1) R P k))) + (mPay (mPf (M 1) R P k) (pkM (M 1) R P k) k))) (60 + (pkM (M 1) R P k))) + (1 : Int32))) ((130 + (6 * (pkM (M 1) R P k))) + k)) + (1 : Int32))) 11) + (1 : Int32))) = mPf (M 1) R P (k + 1) := by (show _ = mPs _ _ _; unfold mPs b4 b3 b2 b1; first | rw [if_neg c_114] | rw [if_pos c_114] | rw [if_pos (Decidable.not_not.mp c_114)])
            rw [eR15] at hP hD
            have hP : va_P K.1 vwCl (mw K h a (hrow (hrow (hrow M 1 (mPf (M 1) R P (k + 1))) 9 E2) 10 (mcR (M 1) R P (M 10) 6))) H := hP
            have hD : va_D A (mw K h a (hrow (hrow (hrow M 1 (mPf (M 1) R P (k + 1))) 9 E2) 10 (mcR (M 1) R P (M 10) 6))) := hD
            exact ih14 (k + 1) _ _ _ (by omega) (by first | omega | assumption | first | rfl | (simp [c_19, c_23, c_23n, c_114]; done) | omega) (by exact Or.inr c_23) hP hD hS (lv_cons (lv_at hl 5 rfl) (lv_cons (lv_at hl 6 rfl) (lv_cons (lv_at hl 7 rfl) (lv_cons (lv_is (lv_at hl 2 rfl) (show (mPd (M 1) R P k) + (mPay (mPf (M 1) R P k) (pkM (M 1) R P k) k) = mPd (M 1) R P (k + 1) by rfl)) (lv_cons (lv_is (lv_at hl 1 rfl) (show (nI (tkM (M 1) R P k)) ||| ((1 : Int32) <<< ((nI (pkM (M 1) R P k)) &&& 31)) = nI (tkM (M 1) R P (k + 1)) by exact (nn_or rfl (nn_shl1 rfl rfl (by omega))).trans (congrArg nI hpk.2.2.symm))) (lv_cons (lv_at hl 0 rfl) (lv_nil hl)))))))
          · skip
            refine lv_iconst (v := (0 : Int32)) hx hb dX6_plays_117 (by decide) ?_
            refine lv_goto (tgt := 122) hx hb dX6_plays_118 (by decide) ?_
            refine lv_iadd hx hb dX6_plays_122 ?_
            refine xi_st hx hb hK hP hD hS 2 (f := (upd (upd (upd (mPf (M 1) R P k) (30 + (pkM (M 1) R P k)) (((mPf (M 1) R P k) (30 + (pkM (M 1) R P k))) + (mPay (mPf (M 1) R P k) (pkM (M 1) R P k) k))) (60 + (pkM (M 1) R P k)) (((upd (mPf (M 1) R P k) (30 + (pkM (M 1) R P k)) (((mPf (M 1) R P k) (30 + (pkM (M 1) R P k))) + (mPay (mPf (M 1) R P k) (pkM (M 1) R P k) k))) (60 + (pkM (M 1) R P k))) + (1 : Int32))) ((130 + (6 * (pkM (M 1) R P k))) + k) (((upd (upd (mPf (M 1) R P k) (30 + (pkM (M 1) R P k)) (((mPf (M 1) R P k) (30 + (pkM (M 1) R P k))) + (mPay (mPf (M 1) R P k) (pkM (M 1) R P k) k))) (60 + (pkM (M 1) R P k)) (((upd (mPf (M 1) R P k) (30 + (pkM (M 1) R P k)) (((mPf (M 1) R P k) (30 + (pkM (M 1) R P k))) + (mPay (mPf (M 1) R P k) (pkM (M 1) R P k) k))) (60 + (pkM (M 1) R P k))) + (1 : Int32))) ((130 + (6 * (pkM (M 1) R P k))) + k)) + (1 : Int32)))) rfl 11 rfl (by omega) (by decide) (mw K h a (hrow (hrow (hrow M 1 (upd (upd (upd (upd (mPf (M 1) R P k) (30 + (pkM (M 1) R P k)) (((mPf (M 1) R P k) (30 + (pkM (M 1) R P k))) + (mPay (mPf (M 1) R P k) (pkM (M 1) R P k) k))) (60 + (pkM (M 1) R P k)) (((upd (mPf (M 1) R P k) (30 + (pkM (M 1) R P k)) (((mPf (M 1) R P k) (30 + (pkM (M 1) R P k))) + (mPay (mPf (M 1) R P k) (pkM (M 1) R P k) k))) (60 + (pkM (M 1) R P k))) + (1 : Int32))) ((130 + (6 * (pkM (M 1) R P k))) + k) (((upd (upd (mPf (M 1) R P k) (30 + (pkM (M 1) R P k)) (((mPf (M 1) R P k) (30 + (pkM (M 1) R P k))) + (mPay (mPf (M 1) R P k) (pkM (M 1) R P k) k))) (60 + (pkM (M 1) R P k)) (((upd (mPf (M 1) R P k) (30 + (pkM (M 1) R P k)) (((mPf (M 1) R P k) (30 + (pkM (M 1) R P k))) + (mPay (mPf (M 1) R P k) (pkM (M 1) R P k) k))) (60 + (pkM (M 1) R P k))) + (1 : Int32))) ((130 + (6 * (pkM (M 1) R P k))) + k)) + (1 : Int32))) 11 (((upd (upd (upd (mPf (M 1) R P k) (30 + (pkM (M 1) R P k)) (((mPf (M 1) R P k) (30 + (pkM (M 1) R P k))) + (mPay (mPf (M 1) R P k) (pkM (M 1) R P k) k))) (60 + (pkM (M 1) R P k)) (((upd (mPf (M 1) R P k) (30 + (pkM (M 1) R P k)) (((mPf (M 1) R P k) (30 + (pkM (M 1) R P k))) + (mPay (mPf (M 1) R P k) (pkM (M 1) R P k) k))) (60 + (pkM (M 1) R P k))) + (1 : Int32))) ((130 + (6 * (pkM (M 1) R P k))) + k) (((upd (upd (mPf (M 1) R P k) (30 + (pkM (M 1) R P k)) (((mPf (M 1) R P k) (30 + (pkM (M 1) R P k))) + (mPay (mPf (M 1) R P k) (pkM (M 1) R P k) k))) (60 + (pkM (M 1) R P k)) (((upd (mPf (M 1) R P k) (30 + (pkM (M 1) R P k)) (((mPf (M 1) R P k) (30 + (pkM (M 1) R P k))) + (mPay (mPf (M 1) R P k) (pkM (M 1) R P k) k))) (60 + (pkM (M 1) R P k))) + (1 : Int32))) ((130 + (6 * (pkM (M 1) R P k))) + k)) + (1 : Int32))) 11) + (0 : Int32)))) 9 E2) 10 (mcR (M 1) R P (M 10) 6))) rfl dX6_plays_123 (fun H locs hP hD hS => ?_)
            refine lv_iinc (v := nI (k + 1)) (lv' := [(5, .int (nI (k + 1))), (4, .int ((nI (tkM (M 1) R P k)) ||| ((1 : Int32) <<< ((nI (pkM (M 1) R P k)) &&& 31)))), (3, .int ((mPd (M 1) R P k) + (mPay (mPf (M 1) R P k) (pkM (M 1) R P k) k))), (7, .int (mPay (mPf (M 1) R P k) (pkM (M 1) R P k) k)), (6, .int (nI (pkM (M 1) R P k))), (0, .ref h), (1, .ref (a 1)), (2, .int (mStr (M 1) R P))]) hx hb dX6_plays_124 hl (k := 7) rfl (nI_1 _) (by decide) rfl (fun ls hl => ?_)
            refine lv_goto (tgt := 14) hx hb dX6_plays_127 (by decide) ?_
            have eR16 : (upd (upd (upd (upd (mPf (M 1) R P k) (30 + (pkM (M 1) R P k)) (((mPf (M 1) R P k) (30 + (pkM (M 1) R P k))) + (mPay (mPf (M 1) R P k) (pkM (M 1) R P k) k))) (60 + (pkM (M 1) R P k)) (((upd (mPf (M 1) R P k) (30 + (pkM (M 1) R P k)) (((mPf (M 1) R P k) (30 + (pkM (M 1) R P k))) + (mPay (mPf (M 1) R P k) (pkM (M 1) R P k) k))) (60 + (pkM (M 1) R P k))) + (1 : Int32))) ((130 + (6 * (pkM (M 1) R P k))) + k) (((upd (upd (mPf (M 1) R P k) (30 + (pkM (M 1) R P k)) (((mPf (M 1) R P k) (30 + (pkM (M 1) R P k))) + (mPay (mPf (M 1) R P k) (pkM (M 1) R P k) k))) (60 + (pkM (M 1) R P k)) (((upd (mPf (M 1) R P k) (30 + (pkM (M 1) R P k)) (((mPf (M 1) R P k) (30 + (pkM (M 1) R P k))) + (mPay (mPf (M 1) R P k) (pkM (M 1) R P k) k))) (60 + (pkM (M 1) R P k))) + (1 : Int32))) ((130 + (6 * (pkM (M 1) R P k))) + k)) + (1 : Int32))) 11 (((upd (upd (upd (mPf (M 1) R P k) (30 + (pkM (M 1) R P k)) (((mPf (M 1) R P k) (30 + (pkM (M 1) R P k))) + (mPay (mPf (M 1) R P k) (pkM (M 1) R P k) k))) (60 + (pkM (M 1) R P k)) (((upd (mPf (M 1) R P k) (30 + (pkM (M 1) R P k)) (((mPf (M 1) R P k) (30 + (pkM (M 1) R P k))) + (mPay (mPf (M 1) R P k) (pkM (M 1) R P k) k))) (60 + (pkM (M 1) R P k))) + (1 : Int32))) ((130 + (6 * (pkM (M 1) R P k))) + k) (((upd (upd (mPf (M 1) R P k) (30 + (pkM (M 1) R P k)) (((mPf (M 1) R P k) (30 + (pkM (M 1) R P k))) + (mPay (mPf (M 1) R P k) (pkM (M 1) R P k) k))) (60 + (pkM (M 1) R P k)) (((upd (mPf (M 1) R P k) (30 + (pkM (M 1) R P k)) (((mPf (M 1) R P k) (30 + (pkM (M 1) R P k))) + (mPay (mPf (M 1) R P k) (pkM (M 1) R P k) k))) (60 + (pkM (M 1) R P k))) + (1 : Int32))) ((130 + (6 * (pkM (M 1) R P k))) + k)) + (1 : Int32))) 11) + (0 : Int32))) = mPf (M 1) R P (k + 1) := by (show _ = mPs _ _ _; unfold mPs b4 b3 b2 b1; first | rw [if_neg c_114] | rw [if_pos c_114] | rw [if_pos (Decidable.not_not.mp c_114)])
            rw [eR16] at hP hD
            have hP : va_P K.1 vwCl (mw K h a (hrow (hrow (hrow M 1 (mPf (M 1) R P (k + 1))) 9 E2) 10 (mcR (M 1) R P (M 10) 6))) H := hP
            have hD : va_D A (mw K h a (hrow (hrow (hrow M 1 (mPf (M 1) R P (k + 1))) 9 E2) 10 (mcR (M 1) R P (M 10) 6))) := hD
            exact ih14 (k + 1) _ _ _ (by omega) (by first | omega | assumption | first | rfl | (simp [c_19, c_23, c_23n, c_114]; done) | omega) (by exact Or.inr c_23) hP hD hS (lv_cons (lv_at hl 5 rfl) (lv_cons (lv_at hl 6 rfl) (lv_cons (lv_at hl 7 rfl) (lv_cons (lv_is (lv_at hl 2 rfl) (show (mPd (M 1) R P k) + (mPay (mPf (M 1) R P k) (pkM (M 1) R P k) k) = mPd (M 1) R P (k + 1) by rfl)) (lv_cons (lv_is (lv_at hl 1 rfl) (show (nI (tkM (M 1) R P k)) ||| ((1 : Int32) <<< ((nI (pkM (M 1) R P k)) &&& 31)) = nI (tkM (M 1) R P (k + 1)) by exact (nn_or rfl (nn_shl1 rfl rfl (by omega))).trans (congrArg nI hpk.2.2.symm))) (lv_cons (lv_at hl 0 rfl) (lv_nil hl)))))))
  have hP : va_P K.1 vwCl (mw K h a (hrow (hrow (hrow M 1 (M 1)) 9 E2) 10 (mcR (M 1) R P (M 10) 6))) H := hP
  have hD : va_D A (mw K h a (hrow (hrow (hrow M 1 (M 1)) 9 E2) 10 (mcR (M 1) R P (M 10) 6))) := hD
  have eR17 : (M 1) = mPf (M 1) R P 0 := by rfl
  have hP : va_P K.1 vwCl (mw K h a (hrow (hrow (hrow M 1 (mPf (M 1) R P 0)) 9 E2) 10 (mcR (M 1) R P (M 10) 6))) H := by rw [← eR17]; exact hP
  have hD : va_D A (mw K h a (hrow (hrow (hrow M 1 (mPf (M 1) R P 0)) 9 E2) 10 (mcR (M 1) R P (M 10) 6))) := by rw [← eR17]; exact hD
  have hP : va_P K.1 vwCl (mw K h a (hrow (hrow (hrow M 1 (mPf (M 1) R P 0)) 9 E2) 10 (mcR (M 1) R P (M 10) 6))) H := hP
  have hD : va_D A (mw K h a (hrow (hrow (hrow M 1 (mPf (M 1) R P 0)) 9 E2) 10 (mcR (M 1) R P (M 10) 6))) := hD
  exact lp14 _ 0 _ _ _ (Nat.lt_succ_self _) (by first | omega | assumption | first | rfl | (simp; done) | omega) (by exact Or.inl rfl) hP hD hS (lv_cons (lv_at hl 4 rfl) (lv_cons (lv_at hl 5 rfl) (lv_cons (lv_at hl 3 rfl) (lv_cons (lv_is (lv_at hl 2 rfl) (show (0 : Int32) = mPd (M 1) R P 0 by rfl)) (lv_cons (lv_is (lv_at hl 1 rfl) (show (0 : Int32) = nI (tkM (M 1) R P 0) by exact tkM_0 _ _ _)) (lv_cons (lv_is (lv_at hl 0 rfl) (show (0 : Int32) = nI 0 by rfl)) (lv_nil hl)))))))

abbrev rm_X6_posts_t : Room := { frames := 4, cells := 0, slots := 0, locals := 96 }
set_option maxHeartbeats 4000000 in
set_option maxRecDepth 100000 in
theorem c_X6_posts_t (l : Launch) (K : KX) (h : Nat) (a : Nat → Nat) (M : HV) (R : Nat) (hR0 : M 1 3 = nI R) (hR0b : R ≤ 6) (P : Nat) (hP0 : M 1 4 = nI P) (hP0b : P ≤ 10) (hok : mOK (M 1) R P) (sz : Nat) : Met l yX6_posts wsX6_posts rm_X6_posts_t (va_Pc [.ref h, .ref (a 1)] (xPre K (mw K h a M) sz)) (va_Qi (fun (r9 : Int32) (u9 : Nat → Int32) => r9 = mStr (M 1) R P) (fun u9 t => xPost K (va_A (mw K h a M) sz) (mw K h a (hrow (hrow (hrow M 1 (mPost (M 1) R P)) 9 u9) 10 (mcR (M 1) R P (M 10) 6))) t) (va_A (mw K h a M) sz)) 0 0 (va_A (mw K h a M) sz) := by
  refine xw_starti (cc := cX6_posts) (maxL := 4) (by decide) rfl (Nat.le_of_ble_eq_true rfl) ?_
  intro p9 e9 s9 m9 below9 meth9 c9 H locs ls A av9 Q9 hx hb hlocks hml hname hts hown hK hP hD hS hA hsz hend hl
  have hown : s9.vm.findClass RX6 = some m9.cls := hown
  have hl : lv_has ls 4 [(0, .ref h), (1, .ref (a 1))] := hl
  have hi6 : ∀ w ∈ u_ws RX6 TX6 14, w ∈ wsX6_posts := by decide +kernel
  have lk32 := hts (.fieldLink RX6 32 "StandInsModel" "cast" "[I") (by decide +kernel)
  refine lv_aload_n hx hb dX6_posts_0 rfl (lv_at hl 0 rfl) ?_
  refine lv_aload_n hx hb dX6_posts_1 rfl (lv_at hl 1 rfl) ?_
  refine xw_Vi (As := [.ref (a 1)]) (rest := []) (wc := mw K h a M) (wr := (List.filterMap (fun i => (mw K h a M : va_W)[i]?) ([] : List Nat))) ⟨hx, hb, hml, hown, hts⟩ (c_X6_casts_t l K h a M R hR0 (by omega) P hP0 (by omega) (by first | assumption | omega) H.size) (cwV 1 hts gX6_posts_X6_casts rfl rfl rfl (by decide +kernel) ⟨Nat.le_of_ble_eq_true rfl, Nat.le_of_ble_eq_true rfl⟩) hK hP hD hS hA [0, 1, 2, 3, 4, 5, 6, 7, 8, 9] [] [0, 1, 2, 3, 4, 5, 6, 7, 8, 9] rfl rfl rfl (fun E2 => mw K h a (hrow (hrow M 9 E2) 10 (mcR (M 1) R P (M 10) 6))) (fun _ => rfl) 0 6 rfl rfl rfl rfl hl.1 rfl (Nat.le_of_ble_eq_true rfl) (Nat.le_of_ble_eq_true rfl) (Nat.le_of_ble_eq_true rfl) dX6_posts_2 (fun r2 E2 H locs hq2 hP hD hS => ?_)
  have hP : va_P K.1 vwCl (mw K h a (hrow (hrow M 9 E2) 10 (mcR (M 1) R P (M 10) 6))) H := hP
  have hD : va_D A (mw K h a (hrow (hrow M 9 E2) 10 (mcR (M 1) R P (M 10) 6))) := hD
  subst hq2
  refine lv_istore_n (lv' := [(2, .int (mStr (M 1) R P)), (0, .ref h), (1, .ref (a 1))]) hx hb dX6_posts_5 rfl hl (by decide) rfl (fun ls hl => ?_)
  refine lv_iload_n hx hb dX6_posts_6 rfl (lv_at hl 0 rfl) ?_
  refine lv_if_lt (tgt := 42) hx hb dX6_posts_7 (by decide) (fun c_7 => ?_) (fun c_7 => ?_)
  · skip
    have c_7n := Int32.not_le.mpr c_7
    refine lv_iload_n hx hb dX6_posts_42 rfl (lv_at hl 0 rfl) ?_
    have hP : va_P K.1 vwCl (mw K h a (hrow (hrow (hrow M 1 (M 1)) 9 E2) 10 (mcR (M 1) R P (M 10) 6))) H := hP
    have hD : va_D A (mw K h a (hrow (hrow (hrow M 1 (M 1)) 9 E2) 10 (mcR (M 1) R P (M 10) 6))) := hD
    have eR1 : (M 1) = mPost (M 1) R P := by (unfold mPost; first | rw [if_pos c_7] | rw [if_neg c_7])
    have hP : va_P K.1 vwCl (mw K h a (hrow (hrow (hrow M 1 (mPost (M 1) R P)) 9 E2) 10 (mcR (M 1) R P (M 10) 6))) H := by rw [← eR1]; exact hP
    have hD : va_D A (mw K h a (hrow (hrow (hrow M 1 (mPost (M 1) R P)) 9 E2) 10 (mcR (M 1) R P (M 10) 6))) := by rw [← eR1]; exact hD
    exact hend _ _ _ _ _ _ _ E2 hP hD hS (Nat.le_of_ble_eq_true rfl) (Nat.le_of_ble_eq_true rfl) (by rfl) dX6_posts_43
  · skip
    have c_7n := Int32.not_lt.mp c_7
    refine lv_aload_n hx hb dX6_posts_10 rfl (lv_at hl 2 rfl) ?_
    refine lv_bipush (v := (10 : Int32)) hx hb dX6_posts_11 (by decide) ?_
    refine lv_iconst (v := (1 : Int32)) hx hb dX6_posts_13 (by decide) ?_
    refine xi_st hx hb hK hP hD hS 2 (f := M 1) rfl 10 rfl (by omega) (by decide) (mw K h a (hrow (hrow (hrow M 1 (upd (M 1) 10 (1 : Int32))) 9 E2) 10 (mcR (M 1) R P (M 10) 6))) rfl dX6_posts_14 (fun H locs hP hD hS => ?_)
    refine lv_iconst (v := (0 : Int32)) hx hb dX6_posts_15 (by decide) ?_
    refine lv_istore_n (lv' := [(3, .int (0 : Int32)), (2, .int (mStr (M 1) R P)), (0, .ref h), (1, .ref (a 1))]) hx hb dX6_posts_16 rfl hl (by decide) rfl (fun ls hl => ?_)
    have lp17 : ∀ (n9 : Nat) (k : Nat) (H : Heap) (locs : List Loc) (ls : Array Slot), R - k < n9 → (k ≤ R) → va_P K.1 vwCl (mw K h a (hrow (hrow (hrow M 1 (poF (upd (M 1) 10 1) (M 1) R P k)) 9 E2) 10 (mcR (M 1) R P (M 10) 6))) H → va_D A (mw K h a (hrow (hrow (hrow M 1 (poF (upd (M 1) 10 1) (M 1) R P k)) 9 E2) 10 (mcR (M 1) R P (M 10) 6))) → va_S A s9.heap H locs → lv_has ls 4 [(0, .ref h), (1, .ref (a 1)), (2, .int (mStr (M 1) R P)), (3, .int (nI k))] → W p9 l e9 rm_X6_posts_t s9 m9 av9 below9 meth9 c9 H locs 0 0 Q9 (F0 m9 17 ls []) := by
      intro n9
      induction n9 with
      | zero => intro k H locs ls hmu hk hP hD hS hl; exact absurd hmu (Nat.not_lt_zero _)
      | succ n9 ih17 =>
        intro k H locs ls hmu hk hP hD hS hl
        refine lv_iload_n hx hb dX6_posts_17 rfl (lv_at hl 3 rfl) ?_
        refine lv_aload_n hx hb dX6_posts_18 rfl (lv_at hl 1 rfl) ?_
        refine lv_iconst (v := (3 : Int32)) hx hb dX6_posts_19 (by decide) ?_
        refine xi_ld hx hb hK hP 2 (f := (poF (upd (M 1) 10 1) (M 1) R P k)) rfl 3 rfl (by omega) (by decide) dX6_posts_20 ?_
        refine xn_icmp_ge (tgt := 42) hx hb k R rfl (km_po (by decide) (mk_un (by omega) hR0)) (by omega) (by omega) dX6_posts_21 (by decide) (fun c_21 => ?_) (fun c_21 => ?_)
        · skip
          have hk9 : R = k := (show k = R from by omega).symm
          subst hk9
          refine lv_iload_n hx hb dX6_posts_42 rfl (lv_at hl 2 rfl) ?_
          have eR2 : (poF (upd (M 1) 10 1) (M 1) R P R) = mPost (M 1) R P := by (unfold mPost; first | rw [if_pos c_7] | rw [if_neg c_7])
          rw [eR2] at hP hD
          exact hend _ _ _ _ _ _ _ E2 hP hD hS (Nat.le_of_ble_eq_true rfl) (Nat.le_of_ble_eq_true rfl) (by rfl) dX6_posts_43
        · skip
          refine lv_aload_n hx hb dX6_posts_24 rfl (lv_at hl 1 rfl) ?_
          refine lv_bipush (v := (24 : Int32)) hx hb dX6_posts_25 (by decide) ?_
          refine lv_iload_n hx hb dX6_posts_27 rfl (lv_at hl 3 rfl) ?_
          refine lv_iadd hx hb dX6_posts_28 ?_
          refine lv_aload_n hx hb dX6_posts_29 rfl (lv_at hl 0 rfl) ?_
          refine va_get (ci := 6) (v := .ref (a 10)) (C := RX6) (T := TX6) (N := 14) hx hb hts hi6 hown hK hP 0 rfl rfl 10 (by decide) lk32 (fun _ h9 => h9) rfl dX6_posts_30 ?_
          refine lv_iload_n hx hb dX6_posts_33 rfl (lv_at hl 3 rfl) ?_
          refine xi_ld hx hb hK hP 8 (f := (mcR (M 1) R P (M 10) 6)) rfl k rfl (by omega) (by decide) dX6_posts_34 ?_
          refine xi_st hx hb hK hP hD hS 2 (f := (poF (upd (M 1) 10 1) (M 1) R P k)) rfl (24 + k) (nn_add rfl rfl) (by omega) (by decide) (mw K h a (hrow (hrow (hrow M 1 (upd (poF (upd (M 1) 10 1) (M 1) R P k) (24 + k) ((mcR (M 1) R P (M 10) 6) k))) 9 E2) 10 (mcR (M 1) R P (M 10) 6))) rfl dX6_posts_35 (fun H locs hP hD hS => ?_)
          refine lv_iinc (v := nI (k + 1)) (lv' := [(3, .int (nI (k + 1))), (0, .ref h), (1, .ref (a 1)), (2, .int (mStr (M 1) R P))]) hx hb dX6_posts_36 hl (k := 3) rfl (nI_1 _) (by decide) rfl (fun ls hl => ?_)
          refine lv_goto (tgt := 17) hx hb dX6_posts_39 (by decide) ?_
          have eR3 : (upd (poF (upd (M 1) 10 1) (M 1) R P k) (24 + k) ((mcR (M 1) R P (M 10) 6) k)) = poF (upd (M 1) 10 1) (M 1) R P (k + 1) := by exact po_s (mcR_at (by omega))
          rw [eR3] at hP hD
          have hP : va_P K.1 vwCl (mw K h a (hrow (hrow (hrow M 1 (poF (upd (M 1) 10 1) (M 1) R P (k + 1))) 9 E2) 10 (mcR (M 1) R P (M 10) 6))) H := hP
          have hD : va_D A (mw K h a (hrow (hrow (hrow M 1 (poF (upd (M 1) 10 1) (M 1) R P (k + 1))) 9 E2) 10 (mcR (M 1) R P (M 10) 6))) := hD
          exact ih17 (k + 1) _ _ _ (by omega) (by first | omega | assumption | first | rfl | (simp [c_7, c_7n, c_21]; done) | omega) hP hD hS (lv_cons (lv_at hl 1 rfl) (lv_cons (lv_at hl 2 rfl) (lv_cons (lv_at hl 3 rfl) (lv_cons (lv_at hl 0 rfl) (lv_nil hl)))))
    have eR4 : (upd (M 1) 10 (1 : Int32)) = poF (upd (M 1) 10 1) (M 1) R P 0 := by exact po_0 _ _ _ _
    rw [eR4] at hP hD
    have hP : va_P K.1 vwCl (mw K h a (hrow (hrow (hrow M 1 (poF (upd (M 1) 10 1) (M 1) R P 0)) 9 E2) 10 (mcR (M 1) R P (M 10) 6))) H := hP
    have hD : va_D A (mw K h a (hrow (hrow (hrow M 1 (poF (upd (M 1) 10 1) (M 1) R P 0)) 9 E2) 10 (mcR (M 1) R P (M 10) 6))) := hD
    exact lp17 _ 0 _ _ _ (Nat.lt_succ_self _) (by first | omega | assumption | first | rfl | (simp [c_7, c_7n]; done) | omega) hP hD hS (lv_cons (lv_at hl 2 rfl) (lv_cons (lv_at hl 3 rfl) (lv_cons (lv_at hl 1 rfl) (lv_cons (lv_is (lv_at hl 0 rfl) (show (0 : Int32) = nI 0 by first | rfl | (simp [c_7, c_7n]; done) | omega)) (lv_nil hl)))))

abbrev rm_X6_castFor_t : Room := { frames := 4, cells := 0, slots := 0, locals := 96 }
set_option maxHeartbeats 4000000 in
set_option maxRecDepth 100000 in
theorem c_X6_castFor_t (l : Launch) (K : KX) (h : Nat) (a : Nat → Nat) (M : HV) (r : Nat) (hr : r < 6) (R : Nat) (hR0 : M 1 3 = nI R) (hR0b : R ≤ 6) (P : Nat) (hP0 : M 1 4 = nI P) (hP0b : P ≤ 10) (hok : mOK (M 1) R P) (sz : Nat) : Met l yX6_castFor wsX6_castFor rm_X6_castFor_t (va_Pc [.ref h, .ref (a 1), .int (nI r)] (xPre K (mw K h a M) sz)) (va_Qi (fun (r9 : Int32) (u9 : Nat → Int32) => r9 = csG (M 1) R P r) (fun u9 t => xPost K (va_A (mw K h a M) sz) (mw K h a (hrow (hrow M 9 u9) 10 (mcR (M 1) R P (M 10) 6))) t) (va_A (mw K h a M) sz)) 0 0 (va_A (mw K h a M) sz) := by
  refine xw_starti (cc := cX6_castFor) (maxL := 3) (by decide) rfl (Nat.le_of_ble_eq_true rfl) ?_
  intro p9 e9 s9 m9 below9 meth9 c9 H locs ls A av9 Q9 hx hb hlocks hml hname hts hown hK hP hD hS hA hsz hend hl
  have hown : s9.vm.findClass RX6 = some m9.cls := hown
  have hl : lv_has ls 3 [(0, .ref h), (1, .ref (a 1)), (2, .int (nI r))] := hl
  have hi6 : ∀ w ∈ u_ws RX6 TX6 14, w ∈ wsX6_castFor := by decide +kernel
  have lk32 := hts (.fieldLink RX6 32 "StandInsModel" "cast" "[I") (by decide +kernel)
  refine lv_aload_n hx hb dX6_castFor_0 rfl (lv_at hl 0 rfl) ?_
  refine lv_aload_n hx hb dX6_castFor_1 rfl (lv_at hl 1 rfl) ?_
  refine xw_Vi (As := [.ref (a 1)]) (rest := []) (wc := mw K h a M) (wr := (List.filterMap (fun i => (mw K h a M : va_W)[i]?) ([] : List Nat))) ⟨hx, hb, hml, hown, hts⟩ (c_X6_casts_t l K h a M R hR0 (by omega) P hP0 (by omega) (by first | assumption | omega) H.size) (cwV 1 hts gX6_castFor_X6_casts rfl rfl rfl (by decide +kernel) ⟨Nat.le_of_ble_eq_true rfl, Nat.le_of_ble_eq_true rfl⟩) hK hP hD hS hA [0, 1, 2, 3, 4, 5, 6, 7, 8, 9] [] [0, 1, 2, 3, 4, 5, 6, 7, 8, 9] rfl rfl rfl (fun E2 => mw K h a (hrow (hrow M 9 E2) 10 (mcR (M 1) R P (M 10) 6))) (fun _ => rfl) 0 6 rfl rfl rfl rfl hl.1 rfl (Nat.le_of_ble_eq_true rfl) (Nat.le_of_ble_eq_true rfl) (Nat.le_of_ble_eq_true rfl) dX6_castFor_2 (fun r2 E2 H locs hq2 hP hD hS => ?_)
  have hP : va_P K.1 vwCl (mw K h a (hrow (hrow M 9 E2) 10 (mcR (M 1) R P (M 10) 6))) H := hP
  have hD : va_D A (mw K h a (hrow (hrow M 9 E2) 10 (mcR (M 1) R P (M 10) 6))) := hD
  subst hq2
  refine lv_pop hx hb dX6_castFor_5 rfl ?_
  refine lv_aload_n hx hb dX6_castFor_6 rfl (lv_at hl 0 rfl) ?_
  refine va_get (ci := 6) (v := .ref (a 10)) (C := RX6) (T := TX6) (N := 14) hx hb hts hi6 hown hK hP 0 rfl rfl 10 (by decide) lk32 (fun _ h9 => h9) rfl dX6_castFor_7 ?_
  refine lv_iload_n hx hb dX6_castFor_10 rfl (lv_at hl 2 rfl) ?_
  refine xi_ld hx hb hK hP 8 (f := (mcR (M 1) R P (M 10) 6)) rfl r rfl (by omega) (by decide) dX6_castFor_11 ?_
  exact hend _ _ _ _ _ _ _ E2 hP hD hS (Nat.le_of_ble_eq_true rfl) (Nat.le_of_ble_eq_true rfl) (by exact mcR_at hr) dX6_castFor_12

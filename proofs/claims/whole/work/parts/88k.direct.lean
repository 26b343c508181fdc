/-! direct cases -/
section LCD
variable {p : Program} {l : Launch} {e : Env} {R : Room} {s : State} {m : MethodId} {args : Array Value} {below : List Frame} {meth : Method} {c : Code} {H : Heap} {locs : List Loc} {cells slots : Nat} {Q : State → Prop}
variable {cc : ByteArray} {pc : Nat} {ls : Array Slot} {rest : List Value} {K : KX} {A : Nat → Prop} {ws : va_W}
variable {xs : Nat → Int32} {LL b i B : Nat} {a : LAd} {T S C U M : HV} {cn nx : Nat} {Ss Sl : Nat → HV} {V : Nat → Int32} {RR PP L : Nat} {ch : Nat → Nat} {g9 : Nat → Int64}
set_option maxHeartbeats 250000 in
set_option maxRecDepth 100000 in
theorem ld_errorPosition {r8 : Int32} (hls : l.stackTraces = false) (X : LCx p s m args c K A xs LL b) (hI : LI B T S M cn nx Ss Sl V RR PP L ch) (hB : B ≤ 100000) (hB2 : 12000 ≤ B) (hi4 : i + 4 ≤ LL) (hce : cells + 4 ≤ 601024) (hsl : slots + 24 ≤ 7293034) (hP : va_P K.1 vwCl (catL (LWl K a T S C U M cn nx Ss Sl V g9)) H) (hD : va_D A (catL (LWl K a T S C U M cn nx Ss Sl V g9))) (hS : va_S A s.heap H locs) (hl : lv_has ls 7 [(0, .ref b), (1, .ref a.x), (2, .ref a.y), (3, .ref a.o), (4, .int (nI i))]) (hq : ferF ch L = r8) (kk : LNext p l e s m args below meth c Q K a A b i (B + 100) (cells + 4) (slots + 24) 1828) : W p l e room_1 s m args below meth c H locs (cells + 4) (slots + 24) Q (F0 m 245 ls [.int r8]) := by
  obtain ⟨hx, hb, hml, hown, hts, hK, hZ, hA, hX, hbl, hbA, hLL⟩ := X
  have hs9 := hI.2.1
  have hb9 : B ≤ B + 100 := by omega
  refine lv_aload_n hx hb dL_law_245 rfl (lv_at hl 2 rfl) ?_
  refine pw_Vi (As := []) (rest := [.int r8]) (wc := mw K a.y a.ya M) (wr := [(a.o, aL K 1 g9)] ++ [(a.x, .inr (5, [.ref a.tx, .ref a.ho, .ref a.ca, .ref a.tr, .ref a.hi, .ref a.sl, .ref a.sv]))] ++ tw K a.tx a.txa T ++ hw K a.ho a.hoa S ++ cw K a.ca a.caa C ++ [(a.tr, .inr (4, [.ref a.th]))] ++ hw K a.th a.tha U ++ [(a.hi, .inr (1, [.ref a.qs, .int (nI cn), .int (nI nx)]))] ++ [(a.qs, aQ K 14 (fun j => some (a.hs j)))] ++ [(a.sl, aQ K 2 (fun j => some (a.sh j)))] ++ [(a.sv, aZ K 2 V)] ++ hwR K a.hs a.as Ss 14 ++ hwR K a.sh a.sa Sl 2) ⟨hx, hb, hml, hown, hts⟩ (c_X6_errorPosition l K a.y a.ya M L hI.1.2.1 hI.1.1.2.1 ch hI.1.2.2 H.size) (cwV 0 hts gL_law_X6_errorPosition rfl rfl rfl (by decide +kernel) ⟨Nat.le_of_ble_eq_true rfl, Nat.le_of_ble_eq_true rfl⟩) hK hP hD hS hA (perm_split (LWl K a T S C U M cn nx Ss Sl V g9) 14 rfl [13] [0, 1, 2, 3, 4, 5, 6, 7, 8, 9, 10, 11, 12] (by decide)) (fun u6 => catL (LWl K a T S C U (hput (hput (hput (hrow M 11 u6.1) 12 (nI u6.2.1)) 13 (nI u6.2.2)) 8 0) cn nx Ss Sl V g9)) (fun u6 => (perm_split (LWl K a T S C U (hput (hput (hput (hrow M 11 u6.1) 12 (nI u6.2.1)) 13 (nI u6.2.2)) 8 0) cn nx Ss Sl V g9) 14 rfl [13] [0, 1, 2, 3, 4, 5, 6, 7, 8, 9, 10, 11, 12] (by decide)).symm) 0 6 rfl rfl rfl rfl hl.1 rfl (Nat.le_of_ble_eq_true rfl) hce hsl dL_law_246 (fun r6 u6 H locs hq6 hP hD hS => ?_)
  refine lv_icmp_eq (tgt := 1828) hx hb dL_law_249 (by decide) (fun _ => ?_) (fun z => absurd (hq.symm.trans hq6.symm) z)
  exact kk T S C U (hput (hput (hput (hrow M 11 u6.1) 12 (nI u6.2.1)) 13 (nI u6.2.2)) 8 0) cn nx Ss Sl V _ _ _ _ g9 _ _ ls (LI_keep hI hb9 rfl rfl rfl rfl rfl rfl rfl) hP hD hS hl
set_option maxHeartbeats 250000 in
set_option maxRecDepth 100000 in
theorem lc_errorPosition (hls : l.stackTraces = false) (X : LCx p s m args c K A xs LL b) (hI : LI B T S M cn nx Ss Sl V RR PP L ch) (hB : B ≤ 100000) (hB2 : 12000 ≤ B) (hi4 : i + 4 ≤ LL) (hce : cells + 4 ≤ 601024) (hsl : slots + 24 ≤ 7293034) (hP : va_P K.1 vwCl (catL (LWl K a T S C U M cn nx Ss Sl V g9)) H) (hD : va_D A (catL (LWl K a T S C U M cn nx Ss Sl V g9))) (hS : va_S A s.heap H locs) (hl : lv_has ls 7 [(0, .ref b), (1, .ref a.x), (2, .ref a.y), (3, .ref a.o), (4, .int (nI i))]) (kk : LNext p l e s m args below meth c Q K a A b i (B + 100) (cells + 4) (slots + 24) 1828) : W p l e room_1 s m args below meth c H locs cells slots Q (F0 m 241 ls []) := by
  have X9 := X
  obtain ⟨hx, hb, hml, hown, hts, hK, hZ, hA, hX, hbl, hbA, hLL⟩ := X
  have hs9 := hI.2.1
  have hb9 : B ≤ B + 100 := by omega
  refine W.widen (k := cells + 4) (n := slots + 24) (Nat.le_add_right cells 4) (Nat.le_add_right slots 24) ?_
  refine lv_aload_n hx hb dL_law_241 rfl (lv_at hl 1 rfl) ?_
  have hPc : va_P K.1 vwCl ([(a.x, .inr (5, [.ref a.tx, .ref a.ho, .ref a.ca, .ref a.tr, .ref a.hi, .ref a.sl, .ref a.sv]))] ++ tw K a.tx a.txa T) H := (P_app (P_perm (perm_split (LWl K a T S C U M cn nx Ss Sl V g9) 14 rfl [1, 2] [0, 3, 4, 5, 6, 7, 8, 9, 10, 11, 12, 13] (by decide)) hP)).1
  refine xr_V (As := []) (rest := []) ⟨hx, hb, hml, hown, hts⟩ (c_X5_errorPosition l K a.x a.tx a.ho a.ca a.tr a.hi a.sl a.sv a.txa T L hI.1.1.1 hI.1.1.2.1 ch hI.1.1.2.2) (cwV 0 hts gL_law_X5_errorPosition rfl rfl rfl (by decide +kernel) ⟨Nat.le_of_ble_eq_true rfl, Nat.le_of_ble_eq_true rfl⟩) hK hPc 0 5 rfl rfl rfl rfl hl.1 rfl (Nat.le_of_ble_eq_true rfl) hce hsl dL_law_242 ?_
  generalize hq : ferF ch L = r8
  exact ld_errorPosition hls X9 hI hB hB2 hi4 hce hsl hP hD hS hl hq kk

set_option maxHeartbeats 250000 in
set_option maxRecDepth 100000 in
theorem ld_clearText {r8 : Int32} (hls : l.stackTraces = false) (X : LCx p s m args c K A xs LL b) (hI : LI B T S M cn nx Ss Sl V RR PP L ch) (hB : B ≤ 100000) (hB2 : 12000 ≤ B) (hi4 : i + 4 ≤ LL) (hce : cells + 4 ≤ 601024) (hsl : slots + 24 ≤ 7293034) (hP : va_P K.1 vwCl (catL (LWl K a (hput T 1 0) S C U M cn nx Ss Sl V g9)) H) (hD : va_D A (catL (LWl K a (hput T 1 0) S C U M cn nx Ss Sl V g9))) (hS : va_S A s.heap H locs) (hl : lv_has ls 7 [(0, .ref b), (1, .ref a.x), (2, .ref a.y), (3, .ref a.o), (4, .int (nI i))]) (hq : r8 = T 1 0) (kk : LNext p l e s m args below meth c Q K a A b i (B + 100) (cells + 4) (slots + 24) 1828) : W p l e room_1 s m args below meth c H locs (cells + 4) (slots + 24) Q (F0 m 232 ls [.int r8]) := by
  obtain ⟨hx, hb, hml, hown, hts, hK, hZ, hA, hX, hbl, hbA, hLL⟩ := X
  have hs9 := hI.2.1
  have hb9 : B ≤ B + 100 := by omega
  refine lv_aload_n hx hb dL_law_232 rfl (lv_at hl 2 rfl) ?_
  refine pw_Vi (As := []) (rest := [.int r8]) (wc := mw K a.y a.ya M) (wr := [(a.o, aL K 1 g9)] ++ [(a.x, .inr (5, [.ref a.tx, .ref a.ho, .ref a.ca, .ref a.tr, .ref a.hi, .ref a.sl, .ref a.sv]))] ++ tw K a.tx a.txa (hput T 1 0) ++ hw K a.ho a.hoa S ++ cw K a.ca a.caa C ++ [(a.tr, .inr (4, [.ref a.th]))] ++ hw K a.th a.tha U ++ [(a.hi, .inr (1, [.ref a.qs, .int (nI cn), .int (nI nx)]))] ++ [(a.qs, aQ K 14 (fun j => some (a.hs j)))] ++ [(a.sl, aQ K 2 (fun j => some (a.sh j)))] ++ [(a.sv, aZ K 2 V)] ++ hwR K a.hs a.as Ss 14 ++ hwR K a.sh a.sa Sl 2) ⟨hx, hb, hml, hown, hts⟩ (c_X6_clearText l K a.y a.ya M H.size) (cwV 0 hts gL_law_X6_clearText rfl rfl rfl (by decide +kernel) ⟨Nat.le_of_ble_eq_true rfl, Nat.le_of_ble_eq_true rfl⟩) hK hP hD hS hA (perm_split (LWl K a (hput T 1 0) S C U M cn nx Ss Sl V g9) 14 rfl [13] [0, 1, 2, 3, 4, 5, 6, 7, 8, 9, 10, 11, 12] (by decide)) (fun u6 => catL (LWl K a (hput T 1 0) S C U (hput (hput M 7 0) 8 0) cn nx Ss Sl V g9)) (fun u6 => (perm_split (LWl K a (hput T 1 0) S C U (hput (hput M 7 0) 8 0) cn nx Ss Sl V g9) 14 rfl [13] [0, 1, 2, 3, 4, 5, 6, 7, 8, 9, 10, 11, 12] (by decide)).symm) 0 6 rfl rfl rfl rfl hl.1 rfl (Nat.le_of_ble_eq_true rfl) hce hsl dL_law_233 (fun r6 u6 H locs hq6 hP hD hS => ?_)
  refine lv_icmp_eq (tgt := 1828) hx hb dL_law_236 (by decide) (fun _ => ?_) (fun z => absurd ((hq.trans hI.1.1.1).trans (hq6.trans hI.1.2.1).symm) z)
  exact kk (hput T 1 0) S C U (hput (hput M 7 0) 8 0) cn nx Ss Sl V _ _ _ _ g9 _ _ ls (LI_clear hI hb9 rfl rfl rfl rfl rfl rfl) hP hD hS hl
set_option maxHeartbeats 250000 in
set_option maxRecDepth 100000 in
theorem lc_clearText (hls : l.stackTraces = false) (X : LCx p s m args c K A xs LL b) (hI : LI B T S M cn nx Ss Sl V RR PP L ch) (hB : B ≤ 100000) (hB2 : 12000 ≤ B) (hi4 : i + 4 ≤ LL) (hce : cells + 4 ≤ 601024) (hsl : slots + 24 ≤ 7293034) (hP : va_P K.1 vwCl (catL (LWl K a T S C U M cn nx Ss Sl V g9)) H) (hD : va_D A (catL (LWl K a T S C U M cn nx Ss Sl V g9))) (hS : va_S A s.heap H locs) (hl : lv_has ls 7 [(0, .ref b), (1, .ref a.x), (2, .ref a.y), (3, .ref a.o), (4, .int (nI i))]) (kk : LNext p l e s m args below meth c Q K a A b i (B + 100) (cells + 4) (slots + 24) 1828) : W p l e room_1 s m args below meth c H locs cells slots Q (F0 m 228 ls []) := by
  have X9 := X
  obtain ⟨hx, hb, hml, hown, hts, hK, hZ, hA, hX, hbl, hbA, hLL⟩ := X
  have hs9 := hI.2.1
  have hb9 : B ≤ B + 100 := by omega
  refine W.widen (k := cells + 4) (n := slots + 24) (Nat.le_add_right cells 4) (Nat.le_add_right slots 24) ?_
  refine lv_aload_n hx hb dL_law_228 rfl (lv_at hl 1 rfl) ?_
  refine pw_Vi (As := []) (rest := []) (wc := [(a.x, .inr (5, [.ref a.tx, .ref a.ho, .ref a.ca, .ref a.tr, .ref a.hi, .ref a.sl, .ref a.sv]))] ++ tw K a.tx a.txa T) (wr := [(a.o, aL K 1 g9)] ++ hw K a.ho a.hoa S ++ cw K a.ca a.caa C ++ [(a.tr, .inr (4, [.ref a.th]))] ++ hw K a.th a.tha U ++ [(a.hi, .inr (1, [.ref a.qs, .int (nI cn), .int (nI nx)]))] ++ [(a.qs, aQ K 14 (fun j => some (a.hs j)))] ++ [(a.sl, aQ K 2 (fun j => some (a.sh j)))] ++ [(a.sv, aZ K 2 V)] ++ hwR K a.hs a.as Ss 14 ++ hwR K a.sh a.sa Sl 2 ++ mw K a.y a.ya M) ⟨hx, hb, hml, hown, hts⟩ (c_X5_clearText l K a.x a.tx a.ho a.ca a.tr a.hi a.sl a.sv a.txa T H.size) (cwV 0 hts gL_law_X5_clearText rfl rfl rfl (by decide +kernel) ⟨Nat.le_of_ble_eq_true rfl, Nat.le_of_ble_eq_true rfl⟩) hK hP hD hS hA (perm_split (LWl K a T S C U M cn nx Ss Sl V g9) 14 rfl [1, 2] [0, 3, 4, 5, 6, 7, 8, 9, 10, 11, 12, 13] (by decide)) (fun u8 => catL (LWl K a (hput T 1 0) S C U M cn nx Ss Sl V g9)) (fun u8 => (perm_split (LWl K a (hput T 1 0) S C U M cn nx Ss Sl V g9) 14 rfl [1, 2] [0, 3, 4, 5, 6, 7, 8, 9, 10, 11, 12, 13] (by decide)).symm) 0 5 rfl rfl rfl rfl hl.1 rfl (Nat.le_of_ble_eq_true rfl) hce hsl dL_law_229 (fun r8 u8 H locs hq hP hD hS => ?_)
  exact ld_clearText hls X9 hI hB hB2 hi4 hce hsl hP hD hS hl hq kk

end LCD

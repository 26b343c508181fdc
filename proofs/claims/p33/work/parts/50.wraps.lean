/-! the law's methods that catch -/
theorem kPromote_1 {S : HV} {P : Nat} {r : Int32} (h : isRo S r) : ¬ kPromote S P r = 1 := by
  unfold kPromote
  rw [if_neg (fun z => z h)]
  split <;> decide
theorem kAddRole_1 {S : HV} {w : Int32} (h : inR w 1 9) : ¬ kAddRole S w = 1 := by
  unfold kAddRole
  rw [if_neg (fun z => z h)]
  split <;> decide
theorem kAddRole_lt {S : HV} {w : Int32} {R : Nat} (h : kAddRole S w = 0) (hR0 : S 10 0 = nI R) (hR : R ≤ 6) : R < 6 := by
  unfold kAddRole at h
  by_cases c1 : inR w 1 9
  · rw [if_neg (fun z => z c1)] at h
    by_cases c2 : S 10 0 < 6 ∧ S 16 0 = 0
    · have c3 := c2.1
      rw [hR0] at c3
      exact (nI_ltI (b := 6) (by omega) (by decide)).mp c3
    · rw [if_neg c2] at h
      exact absurd h (by decide)
  · rw [if_pos c1] at h
    exact absurd h (by decide)
theorem kUndo_0 {cn : Nat} (h : kUndo cn = 0) : ¬ cn = 0 := fun z => by
  unfold kUndo at h
  rw [if_pos z] at h
  exact absurd h (by decide)
theorem kPlay_0 {S : HV} {R : Nat} (hR0 : S 10 0 = nI R) (hR : R ≤ 6) (h : 0 < R) : ¬ kPlay S = 1 := by
  unfold kPlay
  rw [if_neg]
  · decide
  · rw [hR0]
    intro z
    have := (nI_eq (b := 0) (by omega) (by decide)).mp z
    omega

abbrev rm_L_post : Room := { frames := 7, cells := 4, slots := 24, locals := 137 }
set_option maxHeartbeats 4000000 in
set_option maxRecDepth 100000 in
theorem c_L_post (l : Launch) (hls : l.stackTraces = false) (K : KX) (x : Nat) (tx : Nat) (ho : Nat) (ca : Nat) (tr : Nat) (hi : Nat) (sl : Nat) (sv : Nat) (hoa : Nat → Nat) (S : HV) (caa : Nat → Nat) (C : HV)  (qs : Nat) (cn : Nat) (nx : Nat) (hs : Nat → Nat) (as : Nat → Nat → Nat) (Ss : Nat → HV) (R : Nat) (hR0 : S 10 0 = nI R) (hR0b : R ≤ 6) (P : Nat) (hP0 : S 11 0 = nI P) (hP0b : P ≤ 10) (B : Nat) (hW : LWI S Ss cn nx B) (sz : Nat) : vx_Met l yL_post wsL_post rm_L_post (va_Pc [.ref x] (xPreS K ([(x, .inr (5, [.ref tx, .ref ho, .ref ca, .ref tr, .ref hi, .ref sl, .ref sv]))] ++ hw K ho hoa S ++ cw K ca caa C ++ [(hi, .inr (1, [.ref qs, .int (nI cn), .int (nI nx)]))] ++ [(qs, aQ K 14 (fun j => some (hs j)))] ++ hwR K hs as Ss 14) sz)) (va_Qi (fun (r9 : Int32) (u9 : HV × HV × (Nat → HV) × Nat × Nat) => LWI u9.1 u9.2.2.1 u9.2.2.2.1 u9.2.2.2.2 (B + 10)) (fun u9 t => xPost K (va_A ([(x, .inr (5, [.ref tx, .ref ho, .ref ca, .ref tr, .ref hi, .ref sl, .ref sv]))] ++ hw K ho hoa S ++ cw K ca caa C ++ [(hi, .inr (1, [.ref qs, .int (nI cn), .int (nI nx)]))] ++ [(qs, aQ K 14 (fun j => some (hs j)))] ++ hwR K hs as Ss 14) sz) ([(x, .inr (5, [.ref tx, .ref ho, .ref ca, .ref tr, .ref hi, .ref sl, .ref sv]))] ++ hw K ho hoa u9.1 ++ cw K ca caa u9.2.1 ++ [(hi, .inr (1, [.ref qs, .int (nI u9.2.2.2.1), .int (nI u9.2.2.2.2)]))] ++ [(qs, aQ K 14 (fun j => some (hs j)))] ++ hwR K hs as u9.2.2.1 14) t) (va_A ([(x, .inr (5, [.ref tx, .ref ho, .ref ca, .ref tr, .ref hi, .ref sl, .ref sv]))] ++ hw K ho hoa S ++ cw K ca caa C ++ [(hi, .inr (1, [.ref qs, .int (nI cn), .int (nI nx)]))] ++ [(qs, aQ K 14 (fun j => some (hs j)))] ++ hwR K hs as Ss 14) sz)) xNo 4 24 (va_A ([(x, .inr (5, [.ref tx, .ref ho, .ref ca, .ref tr, .ref hi, .ref sl, .ref sv]))] ++ hw K ho hoa S ++ cw K ca caa C ++ [(hi, .inr (1, [.ref qs, .int (nI cn), .int (nI nx)]))] ++ [(qs, aQ K 14 (fun j => some (hs j)))] ++ hwR K hs as Ss 14) sz) := by
  refine xl_start (cc := cL_post) (maxL := 2) (hh := [(0, 4, 5, 15)]) (by decide) rfl (Nat.le_of_ble_eq_true rfl) ?_
  intro p9 e9 s9 m9 below9 meth9 c9 H locs ls A av9 Q9 hx hb hlocks hml hts hown hK hP hD hS hA hsz hZ htab hend hl
  have hown : s9.vm.findClass RL = some m9.cls := hown
  have hl : lv_has ls 2 [(0, .ref x)] := hl
  refine lv_aload_n hx hb dL_post_0 rfl (lv_at hl 0 rfl) ?_
  have hP : va_P K.1 vwCl (([(x, .inr (5, [.ref tx, .ref ho, .ref ca, .ref tr, .ref hi, .ref sl, .ref sv]))] ++ hw K ho hoa S ++ cw K ca caa C ++ [(hi, .inr (1, [.ref qs, .int (nI cn), .int (nI nx)]))] ++ [(qs, aQ K 14 (fun j => some (hs j)))] ++ hwR K hs as Ss 14 : va_W) ++ []) H := by rw [List.append_nil]; exact hP
  have hD : va_D A (([(x, .inr (5, [.ref tx, .ref ho, .ref ca, .ref tr, .ref hi, .ref sl, .ref sv]))] ++ hw K ho hoa S ++ cw K ca caa C ++ [(hi, .inr (1, [.ref qs, .int (nI cn), .int (nI nx)]))] ++ [(qs, aQ K 14 (fun j => some (hs j)))] ++ hwR K hs as Ss 14 : va_W) ++ []) := by rw [List.append_nil]; exact hD
  refine xl_V (As := []) (rest := []) (wc := [(x, .inr (5, [.ref tx, .ref ho, .ref ca, .ref tr, .ref hi, .ref sl, .ref sv]))] ++ hw K ho hoa S ++ cw K ca caa C ++ [(hi, .inr (1, [.ref qs, .int (nI cn), .int (nI nx)]))] ++ [(qs, aQ K 14 (fun j => some (hs j)))] ++ hwR K hs as Ss 14) (wr := []) ⟨hx, hb, hml, hown, hts⟩ (c_X5_post l hls K x tx ho ca tr hi sl sv hoa S caa C qs cn nx hs as Ss hW.2.2.1 hW.2.2.2 (LW_z hW) R hR0 hR0b P hP0 hP0b H.size) (cwV 0 hts gL_post_X5_post rfl rfl rfl (by decide +kernel) ⟨Nat.le_of_ble_eq_true rfl, Nat.le_of_ble_eq_true rfl⟩) hK hP hD hS hZ hA 0 5 rfl rfl rfl rfl hl.1 rfl (Nat.le_of_ble_eq_true rfl) (Nat.le_of_ble_eq_true rfl) (Nat.le_of_ble_eq_true rfl) dL_post_1 (fun E8 ce q9 u8 H locs hpx hP hD hS hce hcv hcl => ?_) (fun r8 u8 H locs hq hP hD hS => ?_)
  · rw [List.append_nil] at hP hD
    obtain ⟨hk, rfl⟩ := hpx
    refine xl_c1 (st := []) hown htab rfl (by decide) (by decide) hZ (hts (.classLink RL 15 "java/lang/IllegalStateException") (by decide +kernel)) hce hcv hcl ?_
    refine lv_astore_n (lv' := [(1, .ref q9), (0, .ref x)]) hx hb dL_post_5 rfl hl (by decide) rfl (fun ls hl => ?_)
    refine lv_bipush (v := (-3 : Int32)) hx hb dL_post_6 (by decide) ?_
    exact hend _ _ _ _ _ _ _ ((S, u8, Ss, cn, nx)) hP hD hS (Nat.le_of_ble_eq_true rfl) (Nat.le_of_ble_eq_true rfl) (LW_up hW (Nat.le_add_right B 10)) dL_post_8
  · rw [List.append_nil] at hP hD
    exact hend _ _ _ _ _ _ _ ((hPost S R P, u8, va_up Ss nx S, (if cn < 14 then cn + 1 else cn), (if nx + 1 < 14 then nx + 1 else 0))) hP hD hS (Nat.le_of_ble_eq_true rfl) (Nat.le_of_ble_eq_true rfl) (LW_rem hW (INV_up (inv_post (LW_inv hW hR0 hR0b hP0 hP0b)) (Nat.le_add_right B 10))) dL_post_4

abbrev rm_L_play : Room := { frames := 8, cells := 4, slots := 24, locals := 137 }
set_option maxHeartbeats 4000000 in
set_option maxRecDepth 100000 in
theorem c_L_play (l : Launch) (hls : l.stackTraces = false) (K : KX) (x : Nat) (tx : Nat) (ho : Nat) (ca : Nat) (tr : Nat) (hi : Nat) (sl : Nat) (sv : Nat) (hoa : Nat → Nat) (S : HV) (caa : Nat → Nat) (C : HV)  (qs : Nat) (cn : Nat) (nx : Nat) (hs : Nat → Nat) (as : Nat → Nat → Nat) (Ss : Nat → HV) (R : Nat) (hR0 : S 10 0 = nI R) (hR0b : R ≤ 6) (P : Nat) (hP0 : S 11 0 = nI P) (hP0b : P ≤ 10) (B : Nat) (hW : LWI S Ss cn nx B) (hRp : 0 < R) (sz : Nat) : vx_Met l yL_play wsL_play rm_L_play (va_Pc [.ref x] (xPreS K ([(x, .inr (5, [.ref tx, .ref ho, .ref ca, .ref tr, .ref hi, .ref sl, .ref sv]))] ++ hw K ho hoa S ++ cw K ca caa C ++ [(hi, .inr (1, [.ref qs, .int (nI cn), .int (nI nx)]))] ++ [(qs, aQ K 14 (fun j => some (hs j)))] ++ hwR K hs as Ss 14) sz)) (va_Qi (fun (r9 : Int32) (u9 : HV) => r9 = hPaid S R P) (fun u9 t => xPost K (va_A ([(x, .inr (5, [.ref tx, .ref ho, .ref ca, .ref tr, .ref hi, .ref sl, .ref sv]))] ++ hw K ho hoa S ++ cw K ca caa C ++ [(hi, .inr (1, [.ref qs, .int (nI cn), .int (nI nx)]))] ++ [(qs, aQ K 14 (fun j => some (hs j)))] ++ hwR K hs as Ss 14) sz) ([(x, .inr (5, [.ref tx, .ref ho, .ref ca, .ref tr, .ref hi, .ref sl, .ref sv]))] ++ hw K ho hoa (hPlay S R P) ++ cw K ca caa u9 ++ [(hi, .inr (1, [.ref qs, .int (nI (if cn < 14 then cn + 1 else cn)), .int (nI (if nx + 1 < 14 then nx + 1 else 0))]))] ++ [(qs, aQ K 14 (fun j => some (hs j)))] ++ hwR K hs as (va_up Ss nx S) 14) t) (va_A ([(x, .inr (5, [.ref tx, .ref ho, .ref ca, .ref tr, .ref hi, .ref sl, .ref sv]))] ++ hw K ho hoa S ++ cw K ca caa C ++ [(hi, .inr (1, [.ref qs, .int (nI cn), .int (nI nx)]))] ++ [(qs, aQ K 14 (fun j => some (hs j)))] ++ hwR K hs as Ss 14) sz)) xNo 4 24 (va_A ([(x, .inr (5, [.ref tx, .ref ho, .ref ca, .ref tr, .ref hi, .ref sl, .ref sv]))] ++ hw K ho hoa S ++ cw K ca caa C ++ [(hi, .inr (1, [.ref qs, .int (nI cn), .int (nI nx)]))] ++ [(qs, aQ K 14 (fun j => some (hs j)))] ++ hwR K hs as Ss 14) sz) := by
  refine xl_start (cc := cL_play) (maxL := 2) (hh := [(0, 4, 5, 15)]) (by decide) rfl (Nat.le_of_ble_eq_true rfl) ?_
  intro p9 e9 s9 m9 below9 meth9 c9 H locs ls A av9 Q9 hx hb hlocks hml hts hown hK hP hD hS hA hsz hZ htab hend hl
  have hown : s9.vm.findClass RL = some m9.cls := hown
  have hl : lv_has ls 2 [(0, .ref x)] := hl
  refine lv_aload_n hx hb dL_play_0 rfl (lv_at hl 0 rfl) ?_
  have hP : va_P K.1 vwCl (([(x, .inr (5, [.ref tx, .ref ho, .ref ca, .ref tr, .ref hi, .ref sl, .ref sv]))] ++ hw K ho hoa S ++ cw K ca caa C ++ [(hi, .inr (1, [.ref qs, .int (nI cn), .int (nI nx)]))] ++ [(qs, aQ K 14 (fun j => some (hs j)))] ++ hwR K hs as Ss 14 : va_W) ++ []) H := by rw [List.append_nil]; exact hP
  have hD : va_D A (([(x, .inr (5, [.ref tx, .ref ho, .ref ca, .ref tr, .ref hi, .ref sl, .ref sv]))] ++ hw K ho hoa S ++ cw K ca caa C ++ [(hi, .inr (1, [.ref qs, .int (nI cn), .int (nI nx)]))] ++ [(qs, aQ K 14 (fun j => some (hs j)))] ++ hwR K hs as Ss 14 : va_W) ++ []) := by rw [List.append_nil]; exact hD
  refine xl_V (As := []) (rest := []) (wc := [(x, .inr (5, [.ref tx, .ref ho, .ref ca, .ref tr, .ref hi, .ref sl, .ref sv]))] ++ hw K ho hoa S ++ cw K ca caa C ++ [(hi, .inr (1, [.ref qs, .int (nI cn), .int (nI nx)]))] ++ [(qs, aQ K 14 (fun j => some (hs j)))] ++ hwR K hs as Ss 14) (wr := []) ⟨hx, hb, hml, hown, hts⟩ (c_X5_play l hls K x tx ho ca tr hi sl sv hoa S caa C qs cn nx hs as Ss hW.2.2.1 hW.2.2.2 (LW_z hW) R hR0 hR0b P hP0 hP0b H.size) (cwV 0 hts gL_play_X5_play rfl rfl rfl (by decide +kernel) ⟨Nat.le_of_ble_eq_true rfl, Nat.le_of_ble_eq_true rfl⟩) hK hP hD hS hZ hA 0 5 rfl rfl rfl rfl hl.1 rfl (Nat.le_of_ble_eq_true rfl) (Nat.le_of_ble_eq_true rfl) (Nat.le_of_ble_eq_true rfl) dL_play_1 (fun E8 ce q9 u8 H locs hpx hP hD hS hce hcv hcl => ?_) (fun r8 u8 H locs hq hP hD hS => ?_)
  · rw [List.append_nil] at hP hD
    obtain ⟨hk, rfl⟩ := hpx
    exact absurd hk (kPlay_0 hR0 hR0b hRp)
  · rw [List.append_nil] at hP hD
    exact hend _ _ _ _ _ _ _ (u8) hP hD hS (Nat.le_of_ble_eq_true rfl) (Nat.le_of_ble_eq_true rfl) (hq.2) dL_play_4

abbrev rm_L_promote : Room := { frames := 8, cells := 4, slots := 24, locals := 133 }
set_option maxHeartbeats 4000000 in
set_option maxRecDepth 100000 in
theorem c_L_promote (l : Launch) (hls : l.stackTraces = false) (K : KX) (x : Nat) (tx : Nat) (ho : Nat) (ca : Nat) (tr : Nat) (hi : Nat) (sl : Nat) (sv : Nat) (r : Nat) (hoa : Nat → Nat) (S : HV)  (qs : Nat) (cn : Nat) (nx : Nat) (hs : Nat → Nat) (as : Nat → Nat → Nat) (Ss : Nat → HV) (R : Nat) (hR0 : S 10 0 = nI R) (hR0b : R ≤ 6) (P : Nat) (hP0 : S 11 0 = nI P) (hP0b : P ≤ 10) (B : Nat) (hW : LWI S Ss cn nx B) (hrR : r < R) (sz : Nat) : vx_Met l yL_promote wsL_promote rm_L_promote (va_Pc [.ref x, .int (nI r)] (xPreS K ([(x, .inr (5, [.ref tx, .ref ho, .ref ca, .ref tr, .ref hi, .ref sl, .ref sv]))] ++ hw K ho hoa S ++ [(hi, .inr (1, [.ref qs, .int (nI cn), .int (nI nx)]))] ++ [(qs, aQ K 14 (fun j => some (hs j)))] ++ hwR K hs as Ss 14) sz)) (va_Qi (fun (r9 : Int32) (u9 : HV × (Nat → HV) × Nat × Nat) => LWI u9.1 u9.2.1 u9.2.2.1 u9.2.2.2 (B + 10)) (fun u9 t => xPost K (va_A ([(x, .inr (5, [.ref tx, .ref ho, .ref ca, .ref tr, .ref hi, .ref sl, .ref sv]))] ++ hw K ho hoa S ++ [(hi, .inr (1, [.ref qs, .int (nI cn), .int (nI nx)]))] ++ [(qs, aQ K 14 (fun j => some (hs j)))] ++ hwR K hs as Ss 14) sz) ([(x, .inr (5, [.ref tx, .ref ho, .ref ca, .ref tr, .ref hi, .ref sl, .ref sv]))] ++ hw K ho hoa u9.1 ++ [(hi, .inr (1, [.ref qs, .int (nI u9.2.2.1), .int (nI u9.2.2.2)]))] ++ [(qs, aQ K 14 (fun j => some (hs j)))] ++ hwR K hs as u9.2.1 14) t) (va_A ([(x, .inr (5, [.ref tx, .ref ho, .ref ca, .ref tr, .ref hi, .ref sl, .ref sv]))] ++ hw K ho hoa S ++ [(hi, .inr (1, [.ref qs, .int (nI cn), .int (nI nx)]))] ++ [(qs, aQ K 14 (fun j => some (hs j)))] ++ hwR K hs as Ss 14) sz)) xNo 4 24 (va_A ([(x, .inr (5, [.ref tx, .ref ho, .ref ca, .ref tr, .ref hi, .ref sl, .ref sv]))] ++ hw K ho hoa S ++ [(hi, .inr (1, [.ref qs, .int (nI cn), .int (nI nx)]))] ++ [(qs, aQ K 14 (fun j => some (hs j)))] ++ hwR K hs as Ss 14) sz) := by
  refine xl_start (cc := cL_promote) (maxL := 3) (hh := [(0, 5, 6, 15)]) (by decide) rfl (Nat.le_of_ble_eq_true rfl) ?_
  intro p9 e9 s9 m9 below9 meth9 c9 H locs ls A av9 Q9 hx hb hlocks hml hts hown hK hP hD hS hA hsz hZ htab hend hl
  have hown : s9.vm.findClass RL = some m9.cls := hown
  have hl : lv_has ls 3 [(0, .ref x), (1, .int (nI r))] := hl
  refine lv_aload_n hx hb dL_promote_0 rfl (lv_at hl 0 rfl) ?_
  refine lv_iload_n hx hb dL_promote_1 rfl (lv_at hl 1 rfl) ?_
  have hP : va_P K.1 vwCl (([(x, .inr (5, [.ref tx, .ref ho, .ref ca, .ref tr, .ref hi, .ref sl, .ref sv]))] ++ hw K ho hoa S ++ [(hi, .inr (1, [.ref qs, .int (nI cn), .int (nI nx)]))] ++ [(qs, aQ K 14 (fun j => some (hs j)))] ++ hwR K hs as Ss 14 : va_W) ++ []) H := by rw [List.append_nil]; exact hP
  have hD : va_D A (([(x, .inr (5, [.ref tx, .ref ho, .ref ca, .ref tr, .ref hi, .ref sl, .ref sv]))] ++ hw K ho hoa S ++ [(hi, .inr (1, [.ref qs, .int (nI cn), .int (nI nx)]))] ++ [(qs, aQ K 14 (fun j => some (hs j)))] ++ hwR K hs as Ss 14 : va_W) ++ []) := by rw [List.append_nil]; exact hD
  refine xl_V (As := [.int (nI r)]) (rest := []) (wc := [(x, .inr (5, [.ref tx, .ref ho, .ref ca, .ref tr, .ref hi, .ref sl, .ref sv]))] ++ hw K ho hoa S ++ [(hi, .inr (1, [.ref qs, .int (nI cn), .int (nI nx)]))] ++ [(qs, aQ K 14 (fun j => some (hs j)))] ++ hwR K hs as Ss 14) (wr := []) ⟨hx, hb, hml, hown, hts⟩ (c_X5_promote l hls K x tx ho ca tr hi sl sv (nI r) hoa S qs cn nx hs as Ss hW.2.2.1 hW.2.2.2 (LW_z hW) R hR0 hR0b P hP0 hP0b H.size) (cwV 1 hts gL_promote_X5_promote rfl rfl rfl (by decide +kernel) ⟨Nat.le_of_ble_eq_true rfl, Nat.le_of_ble_eq_true rfl⟩) hK hP hD hS hZ hA 0 5 rfl rfl rfl rfl hl.1 rfl (Nat.le_of_ble_eq_true rfl) (Nat.le_of_ble_eq_true rfl) (Nat.le_of_ble_eq_true rfl) dL_promote_2 (fun E8 ce q9 u8 H locs hpx hP hD hS hce hcv hcl => ?_) (fun r8 u8 H locs hq hP hD hS => ?_)
  · rw [List.append_nil] at hP hD
    rcases hpx with ⟨hk, rfl⟩ | ⟨hk, rfl⟩
    · exact absurd hk (kPromote_1 (is_ro hR0 hR0b hrR))
    · skip
      refine xl_c1 (st := []) hown htab rfl (by decide) (by decide) hZ (hts (.classLink RL 15 "java/lang/IllegalStateException") (by decide +kernel)) hce hcv hcl ?_
      refine lv_astore_n (lv' := [(2, .ref q9), (0, .ref x), (1, .int (nI r))]) hx hb dL_promote_6 rfl hl (by decide) rfl (fun ls hl => ?_)
      refine lv_bipush (v := (-3 : Int32)) hx hb dL_promote_7 (by decide) ?_
      exact hend _ _ _ _ _ _ _ ((S, Ss, cn, nx)) hP hD hS (Nat.le_of_ble_eq_true rfl) (Nat.le_of_ble_eq_true rfl) (LW_up hW (Nat.le_add_right B 10)) dL_promote_9
  · rw [List.append_nil] at hP hD
    exact hend _ _ _ _ _ _ _ ((hset S 1 (cN (nI r)) ((prm S (cN (nI r)) P P).2), va_up Ss nx S, (if cn < 14 then cn + 1 else cn), (if nx + 1 < 14 then nx + 1 else 0))) hP hD hS (Nat.le_of_ble_eq_true rfl) (Nat.le_of_ble_eq_true rfl) (LW_rem hW (INV_up (inv_first (LW_inv hW hR0 hR0b hP0 hP0b)) (Nat.le_add_right B 10))) dL_promote_5

abbrev rm_L_comes : Room := { frames := 8, cells := 4, slots := 24, locals := 133 }
set_option maxHeartbeats 4000000 in
set_option maxRecDepth 100000 in
theorem c_L_comes (l : Launch) (hls : l.stackTraces = false) (K : KX) (x : Nat) (tx : Nat) (ho : Nat) (ca : Nat) (tr : Nat) (hi : Nat) (sl : Nat) (sv : Nat) (a : Nat) (hoa : Nat → Nat) (S : HV)  (qs : Nat) (cn : Nat) (nx : Nat) (hs : Nat → Nat) (as : Nat → Nat → Nat) (Ss : Nat → HV) (R : Nat) (hR0 : S 10 0 = nI R) (hR0b : R ≤ 6) (P : Nat) (hP0 : S 11 0 = nI P) (hP0b : P ≤ 10) (B : Nat) (hW : LWI S Ss cn nx B) (ha : 1 ≤ a ∧ a ≤ 9) (sz : Nat) : vx_Met l yL_comes wsL_comes rm_L_comes (va_Pc [.ref x, .int (nI a)] (xPreS K ([(x, .inr (5, [.ref tx, .ref ho, .ref ca, .ref tr, .ref hi, .ref sl, .ref sv]))] ++ hw K ho hoa S ++ [(hi, .inr (1, [.ref qs, .int (nI cn), .int (nI nx)]))] ++ [(qs, aQ K 14 (fun j => some (hs j)))] ++ hwR K hs as Ss 14) sz)) (va_Qi (fun (r9 : Int32) (u9 : HV × (Nat → HV) × Nat × Nat) => LWI u9.1 u9.2.1 u9.2.2.1 u9.2.2.2 (B + 10)) (fun u9 t => xPost K (va_A ([(x, .inr (5, [.ref tx, .ref ho, .ref ca, .ref tr, .ref hi, .ref sl, .ref sv]))] ++ hw K ho hoa S ++ [(hi, .inr (1, [.ref qs, .int (nI cn), .int (nI nx)]))] ++ [(qs, aQ K 14 (fun j => some (hs j)))] ++ hwR K hs as Ss 14) sz) ([(x, .inr (5, [.ref tx, .ref ho, .ref ca, .ref tr, .ref hi, .ref sl, .ref sv]))] ++ hw K ho hoa u9.1 ++ [(hi, .inr (1, [.ref qs, .int (nI u9.2.2.1), .int (nI u9.2.2.2)]))] ++ [(qs, aQ K 14 (fun j => some (hs j)))] ++ hwR K hs as u9.2.1 14) t) (va_A ([(x, .inr (5, [.ref tx, .ref ho, .ref ca, .ref tr, .ref hi, .ref sl, .ref sv]))] ++ hw K ho hoa S ++ [(hi, .inr (1, [.ref qs, .int (nI cn), .int (nI nx)]))] ++ [(qs, aQ K 14 (fun j => some (hs j)))] ++ hwR K hs as Ss 14) sz)) xNo 4 24 (va_A ([(x, .inr (5, [.ref tx, .ref ho, .ref ca, .ref tr, .ref hi, .ref sl, .ref sv]))] ++ hw K ho hoa S ++ [(hi, .inr (1, [.ref qs, .int (nI cn), .int (nI nx)]))] ++ [(qs, aQ K 14 (fun j => some (hs j)))] ++ hwR K hs as Ss 14) sz) := by
  refine xl_start (cc := cL_comes) (maxL := 3) (hh := [(0, 5, 6, 15)]) (by decide) rfl (Nat.le_of_ble_eq_true rfl) ?_
  intro p9 e9 s9 m9 below9 meth9 c9 H locs ls A av9 Q9 hx hb hlocks hml hts hown hK hP hD hS hA hsz hZ htab hend hl
  have hown : s9.vm.findClass RL = some m9.cls := hown
  have hl : lv_has ls 3 [(0, .ref x), (1, .int (nI a))] := hl
  refine lv_aload_n hx hb dL_comes_0 rfl (lv_at hl 0 rfl) ?_
  refine lv_iload_n hx hb dL_comes_1 rfl (lv_at hl 1 rfl) ?_
  have hP : va_P K.1 vwCl (([(x, .inr (5, [.ref tx, .ref ho, .ref ca, .ref tr, .ref hi, .ref sl, .ref sv]))] ++ hw K ho hoa S ++ [(hi, .inr (1, [.ref qs, .int (nI cn), .int (nI nx)]))] ++ [(qs, aQ K 14 (fun j => some (hs j)))] ++ hwR K hs as Ss 14 : va_W) ++ []) H := by rw [List.append_nil]; exact hP
  have hD : va_D A (([(x, .inr (5, [.ref tx, .ref ho, .ref ca, .ref tr, .ref hi, .ref sl, .ref sv]))] ++ hw K ho hoa S ++ [(hi, .inr (1, [.ref qs, .int (nI cn), .int (nI nx)]))] ++ [(qs, aQ K 14 (fun j => some (hs j)))] ++ hwR K hs as Ss 14 : va_W) ++ []) := by rw [List.append_nil]; exact hD
  refine xl_V (As := [.int (nI a)]) (rest := []) (wc := [(x, .inr (5, [.ref tx, .ref ho, .ref ca, .ref tr, .ref hi, .ref sl, .ref sv]))] ++ hw K ho hoa S ++ [(hi, .inr (1, [.ref qs, .int (nI cn), .int (nI nx)]))] ++ [(qs, aQ K 14 (fun j => some (hs j)))] ++ hwR K hs as Ss 14) (wr := []) ⟨hx, hb, hml, hown, hts⟩ (c_X5_addRole l hls K x tx ho ca tr hi sl sv (nI a) hoa S qs cn nx hs as Ss hW.2.2.1 hW.2.2.2 (LW_z hW) R hR0 hR0b H.size) (cwV 1 hts gL_comes_X5_addRole rfl rfl rfl (by decide +kernel) ⟨Nat.le_of_ble_eq_true rfl, Nat.le_of_ble_eq_true rfl⟩) hK hP hD hS hZ hA 0 5 rfl rfl rfl rfl hl.1 rfl (Nat.le_of_ble_eq_true rfl) (Nat.le_of_ble_eq_true rfl) (Nat.le_of_ble_eq_true rfl) dL_comes_2 (fun E8 ce q9 u8 H locs hpx hP hD hS hce hcv hcl => ?_) (fun r8 u8 H locs hq hP hD hS => ?_)
  · rw [List.append_nil] at hP hD
    rcases hpx with ⟨hk, rfl⟩ | ⟨hk, rfl⟩
    · exact absurd hk (kAddRole_1 (in_nI ha (by decide)))
    · skip
      refine xl_c1 (st := []) hown htab rfl (by decide) (by decide) hZ (hts (.classLink RL 15 "java/lang/IllegalStateException") (by decide +kernel)) hce hcv hcl ?_
      refine lv_astore_n (lv' := [(2, .ref q9), (0, .ref x), (1, .int (nI a))]) hx hb dL_comes_6 rfl hl (by decide) rfl (fun ls hl => ?_)
      refine lv_bipush (v := (-3 : Int32)) hx hb dL_comes_7 (by decide) ?_
      exact hend _ _ _ _ _ _ _ ((S, Ss, cn, nx)) hP hD hS (Nat.le_of_ble_eq_true rfl) (Nat.le_of_ble_eq_true rfl) (LW_up hW (Nat.le_add_right B 10)) dL_comes_9
  · rw [List.append_nil] at hP hD
    exact hend _ _ _ _ _ _ _ ((hPutRole S R (nI a), va_up Ss nx S, (if cn < 14 then cn + 1 else cn), (if nx + 1 < 14 then nx + 1 else 0))) hP hD hS (Nat.le_of_ble_eq_true rfl) (Nat.le_of_ble_eq_true rfl) (LW_rem hW (INV_up (inv_role (LW_inv hW hR0 hR0b hP0 hP0b) (kAddRole_lt hq.1 hR0 hR0b) ha) (Nat.le_add_right B 10))) dL_comes_5

abbrev rm_L_undo : Room := { frames := 7, cells := 4, slots := 24, locals := 110 }
set_option maxHeartbeats 4000000 in
set_option maxRecDepth 100000 in
theorem c_L_undo (l : Launch) (hls : l.stackTraces = false) (K : KX) (x : Nat) (tx : Nat) (ho : Nat) (ca : Nat) (tr : Nat) (hi : Nat) (sl : Nat) (sv : Nat) (hoa : Nat → Nat) (S : HV)  (qs : Nat) (cn : Nat) (nx : Nat) (hs : Nat → Nat) (as : Nat → Nat → Nat) (Ss : Nat → HV) (B : Nat) (hW : LWI S Ss cn nx B) (sz : Nat) : vx_Met l yL_undo wsL_undo rm_L_undo (va_Pc [.ref x] (xPreS K ([(x, .inr (5, [.ref tx, .ref ho, .ref ca, .ref tr, .ref hi, .ref sl, .ref sv]))] ++ hw K ho hoa S ++ [(hi, .inr (1, [.ref qs, .int (nI cn), .int (nI nx)]))] ++ [(qs, aQ K 14 (fun j => some (hs j)))] ++ hwR K hs as Ss 14) sz)) (va_Qi (fun (r9 : Int32) (u9 : HV × (Nat → HV) × Nat × Nat) => LWI u9.1 u9.2.1 u9.2.2.1 u9.2.2.2 (B + 10)) (fun u9 t => xPost K (va_A ([(x, .inr (5, [.ref tx, .ref ho, .ref ca, .ref tr, .ref hi, .ref sl, .ref sv]))] ++ hw K ho hoa S ++ [(hi, .inr (1, [.ref qs, .int (nI cn), .int (nI nx)]))] ++ [(qs, aQ K 14 (fun j => some (hs j)))] ++ hwR K hs as Ss 14) sz) ([(x, .inr (5, [.ref tx, .ref ho, .ref ca, .ref tr, .ref hi, .ref sl, .ref sv]))] ++ hw K ho hoa u9.1 ++ [(hi, .inr (1, [.ref qs, .int (nI u9.2.2.1), .int (nI u9.2.2.2)]))] ++ [(qs, aQ K 14 (fun j => some (hs j)))] ++ hwR K hs as u9.2.1 14) t) (va_A ([(x, .inr (5, [.ref tx, .ref ho, .ref ca, .ref tr, .ref hi, .ref sl, .ref sv]))] ++ hw K ho hoa S ++ [(hi, .inr (1, [.ref qs, .int (nI cn), .int (nI nx)]))] ++ [(qs, aQ K 14 (fun j => some (hs j)))] ++ hwR K hs as Ss 14) sz)) xNo 4 24 (va_A ([(x, .inr (5, [.ref tx, .ref ho, .ref ca, .ref tr, .ref hi, .ref sl, .ref sv]))] ++ hw K ho hoa S ++ [(hi, .inr (1, [.ref qs, .int (nI cn), .int (nI nx)]))] ++ [(qs, aQ K 14 (fun j => some (hs j)))] ++ hwR K hs as Ss 14) sz) := by
  refine xl_start (cc := cL_undo) (maxL := 2) (hh := [(0, 4, 5, 15)]) (by decide) rfl (Nat.le_of_ble_eq_true rfl) ?_
  intro p9 e9 s9 m9 below9 meth9 c9 H locs ls A av9 Q9 hx hb hlocks hml hts hown hK hP hD hS hA hsz hZ htab hend hl
  have hown : s9.vm.findClass RL = some m9.cls := hown
  have hl : lv_has ls 2 [(0, .ref x)] := hl
  refine lv_aload_n hx hb dL_undo_0 rfl (lv_at hl 0 rfl) ?_
  have hP : va_P K.1 vwCl (([(x, .inr (5, [.ref tx, .ref ho, .ref ca, .ref tr, .ref hi, .ref sl, .ref sv]))] ++ hw K ho hoa S ++ [(hi, .inr (1, [.ref qs, .int (nI cn), .int (nI nx)]))] ++ [(qs, aQ K 14 (fun j => some (hs j)))] ++ hwR K hs as Ss 14 : va_W) ++ []) H := by rw [List.append_nil]; exact hP
  have hD : va_D A (([(x, .inr (5, [.ref tx, .ref ho, .ref ca, .ref tr, .ref hi, .ref sl, .ref sv]))] ++ hw K ho hoa S ++ [(hi, .inr (1, [.ref qs, .int (nI cn), .int (nI nx)]))] ++ [(qs, aQ K 14 (fun j => some (hs j)))] ++ hwR K hs as Ss 14 : va_W) ++ []) := by rw [List.append_nil]; exact hD
  refine xl_V (As := []) (rest := []) (wc := [(x, .inr (5, [.ref tx, .ref ho, .ref ca, .ref tr, .ref hi, .ref sl, .ref sv]))] ++ hw K ho hoa S ++ [(hi, .inr (1, [.ref qs, .int (nI cn), .int (nI nx)]))] ++ [(qs, aQ K 14 (fun j => some (hs j)))] ++ hwR K hs as Ss 14) (wr := []) ⟨hx, hb, hml, hown, hts⟩ (c_X5_undo l hls K x tx ho ca tr hi sl sv hoa S qs cn nx hs as Ss hW.2.2.1 hW.2.2.2 (LW_zs hW) H.size) (cwV 0 hts gL_undo_X5_undo rfl rfl rfl (by decide +kernel) ⟨Nat.le_of_ble_eq_true rfl, Nat.le_of_ble_eq_true rfl⟩) hK hP hD hS hZ hA 0 5 rfl rfl rfl rfl hl.1 rfl (Nat.le_of_ble_eq_true rfl) (Nat.le_of_ble_eq_true rfl) (Nat.le_of_ble_eq_true rfl) dL_undo_1 (fun E8 ce q9 u8 H locs hpx hP hD hS hce hcv hcl => ?_) (fun r8 u8 H locs hq hP hD hS => ?_)
  · rw [List.append_nil] at hP hD
    obtain ⟨hk, rfl⟩ := hpx
    refine xl_c1 (st := []) hown htab rfl (by decide) (by decide) hZ (hts (.classLink RL 15 "java/lang/IllegalStateException") (by decide +kernel)) hce hcv hcl ?_
    refine lv_astore_n (lv' := [(1, .ref q9), (0, .ref x)]) hx hb dL_undo_5 rfl hl (by decide) rfl (fun ls hl => ?_)
    refine lv_bipush (v := (-3 : Int32)) hx hb dL_undo_6 (by decide) ?_
    exact hend _ _ _ _ _ _ _ ((S, Ss, cn, nx)) hP hD hS (Nat.le_of_ble_eq_true rfl) (Nat.le_of_ble_eq_true rfl) (LW_up hW (Nat.le_add_right B 10)) dL_undo_8
  · rw [List.append_nil] at hP hD
    exact hend _ _ _ _ _ _ _ ((Ss (if 0 < nx then nx - 1 else 13), Ss, cn - 1, if 0 < nx then nx - 1 else 13)) hP hD hS (Nat.le_of_ble_eq_true rfl) (Nat.le_of_ble_eq_true rfl) (LW_undo hW (kUndo_0 hq.1)) dL_undo_4

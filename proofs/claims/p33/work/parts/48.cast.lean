/-! who plays today can, is free, and plays one role; worths add up -/
abbrev rm_L_cast_y : Room := { frames := 8, cells := 300, slots := 1800, locals := 134 }
set_option maxHeartbeats 4000000 in
set_option maxRecDepth 100000 in
theorem c_L_cast_y (l : Launch) (K : KX) (x : Nat) (tx : Nat) (ho : Nat) (ca : Nat) (tr : Nat) (hi : Nat) (sl : Nat) (sv : Nat) (hoa : Nat → Nat) (S : HV) (caa : Nat → Nat) (C : HV) (R : Nat) (hR0 : S 10 0 = nI R) (hR0b : R ≤ 6) (P : Nat) (hP0 : S 11 0 = nI P) (hP0b : P ≤ 10) (hls : l.stackTraces = false) (B : Nat) (hI : INV S R P B) (hd : ¬ hStr S R P = -1) (sz : Nat) : Met l yL_cast wsL_cast rm_L_cast_y (va_Pc [.ref x] (xPreS K ([(x, .inr (5, [.ref tx, .ref ho, .ref ca, .ref tr, .ref hi, .ref sl, .ref sv]))] ++ hw K ho hoa S ++ cw K ca caa C) sz)) (va_Qi (fun (r9 : Int32) (u9 : HV) => r9 = 1) (fun u9 t => xPost K (va_A ([(x, .inr (5, [.ref tx, .ref ho, .ref ca, .ref tr, .ref hi, .ref sl, .ref sv]))] ++ hw K ho hoa S ++ cw K ca caa C) sz) ([(x, .inr (5, [.ref tx, .ref ho, .ref ca, .ref tr, .ref hi, .ref sl, .ref sv]))] ++ hw K ho hoa S ++ cw K ca caa u9) t) (va_A ([(x, .inr (5, [.ref tx, .ref ho, .ref ca, .ref tr, .ref hi, .ref sl, .ref sv]))] ++ hw K ho hoa S ++ cw K ca caa C) sz)) 300 1800 (va_A ([(x, .inr (5, [.ref tx, .ref ho, .ref ca, .ref tr, .ref hi, .ref sl, .ref sv]))] ++ hw K ho hoa S ++ cw K ca caa C) sz) := by
  refine xs_startz (cc := cL_cast) (maxL := 8) (ret := .boolean) (by decide) rfl (Nat.le_of_ble_eq_true rfl) ?_
  intro p9 e9 s9 m9 below9 meth9 c9 H locs ls A av9 Q9 hx hb hlocks hml hname hts hown hK hP hD hS hA hsz hZ hend hl
  have hown : s9.vm.findClass RL = some m9.cls := hown
  have hl : lv_has ls 8 [(0, .ref x)] := hl
  have hC := hI.2.1
  have hz := hI.1.2.2.2.2
  refine lv_aload_n hx hb dL_cast_0 rfl (lv_at hl 0 rfl) ?_
  refine lv_iconst (v := (0 : Int32)) hx hb dL_cast_1 (by decide) ?_
  refine xs_Vi (As := [.int (0 : Int32)]) (rest := []) (wc := [(x, .inr (5, [.ref tx, .ref ho, .ref ca, .ref tr, .ref hi, .ref sl, .ref sv]))] ++ hw K ho hoa S) (wr := (List.filterMap (fun i => ([(x, .inr (5, [.ref tx, .ref ho, .ref ca, .ref tr, .ref hi, .ref sl, .ref sv]))] ++ hw K ho hoa S ++ cw K ca caa C : va_W)[i]?) ([12, 13, 14, 15] : List Nat))) ⟨hx, hb, hml, hown, hts⟩ (c_X5_about_0 l K x tx ho ca tr hi sl sv hoa S P hP0 (by omega) (by first | assumption | omega) (by first | assumption | omega) H.size) (cwV 1 hts gL_cast_X5_about rfl rfl rfl (by decide +kernel) ⟨Nat.le_of_ble_eq_true rfl, Nat.le_of_ble_eq_true rfl⟩) hK hP hD hS hZ hA [0, 1, 2, 3, 4, 5, 6, 7, 8, 9, 10, 11] [12, 13, 14, 15] [4, 5, 6, 7, 8, 9, 10, 11, 12, 13, 14, 15, 0, 1, 2, 3] rfl rfl rfl (fun _u => [(x, .inr (5, [.ref tx, .ref ho, .ref ca, .ref tr, .ref hi, .ref sl, .ref sv]))] ++ hw K ho hoa S ++ cw K ca caa C) (fun _ => rfl) 0 5 rfl rfl rfl rfl hl.1 rfl (Nat.le_of_ble_eq_true rfl) (Nat.le_of_ble_eq_true rfl) (Nat.le_of_ble_eq_true rfl) dL_cast_2 (fun r2 _ H locs hq2 hP hD hS => ?_)
  have hP : va_P K.1 vwCl ([(x, .inr (5, [.ref tx, .ref ho, .ref ca, .ref tr, .ref hi, .ref sl, .ref sv]))] ++ hw K ho hoa S ++ cw K ca caa C) H := hP
  have hD : va_D A ([(x, .inr (5, [.ref tx, .ref ho, .ref ca, .ref tr, .ref hi, .ref sl, .ref sv]))] ++ hw K ho hoa S ++ cw K ca caa C) := hD
  subst hq2
  refine lv_istore_n (lv' := [(1, .int (S 10 0)), (0, .ref x)]) hx hb dL_cast_5 rfl hl (by decide) rfl (fun ls hl => ?_)
  refine lv_aload_n hx hb dL_cast_6 rfl (lv_at hl 1 rfl) ?_
  refine xw_Vi (As := []) (rest := []) (wc := [(x, .inr (5, [.ref tx, .ref ho, .ref ca, .ref tr, .ref hi, .ref sl, .ref sv]))] ++ hw K ho hoa S ++ cw K ca caa C) (wr := (List.filterMap (fun i => ([(x, .inr (5, [.ref tx, .ref ho, .ref ca, .ref tr, .ref hi, .ref sl, .ref sv]))] ++ hw K ho hoa S ++ cw K ca caa C : va_W)[i]?) ([] : List Nat))) ⟨hx, hb, hml, hown, hts⟩ (c_X5_strength l K x tx ho ca tr hi sl sv hoa S caa C R hR0 (by omega) P hP0 (by omega) H.size) (cwV 0 hts gL_cast_X5_strength rfl rfl rfl (by decide +kernel) ⟨Nat.le_of_ble_eq_true rfl, Nat.le_of_ble_eq_true rfl⟩) hK hP hD hS hA [0, 1, 2, 3, 4, 5, 6, 7, 8, 9, 10, 11, 12, 13, 14, 15] [] [0, 1, 2, 3, 4, 5, 6, 7, 8, 9, 10, 11, 12, 13, 14, 15] rfl rfl rfl (fun u9_7 => [(x, .inr (5, [.ref tx, .ref ho, .ref ca, .ref tr, .ref hi, .ref sl, .ref sv]))] ++ hw K ho hoa S ++ cw K ca caa u9_7) (fun _ => rfl) 0 5 rfl rfl rfl rfl hl.1 rfl (Nat.le_of_ble_eq_true rfl) (Nat.le_of_ble_eq_true rfl) (Nat.le_of_ble_eq_true rfl) dL_cast_7 (fun r7 u9_7 H locs hq7 hP hD hS => ?_)
  have hP : va_P K.1 vwCl ([(x, .inr (5, [.ref tx, .ref ho, .ref ca, .ref tr, .ref hi, .ref sl, .ref sv]))] ++ hw K ho hoa S ++ cw K ca caa u9_7) H := hP
  have hD : va_D A ([(x, .inr (5, [.ref tx, .ref ho, .ref ca, .ref tr, .ref hi, .ref sl, .ref sv]))] ++ hw K ho hoa S ++ cw K ca caa u9_7) := hD
  subst hq7
  refine lv_istore_n (lv' := [(2, .int (hStr S R P)), (1, .int (S 10 0)), (0, .ref x)]) hx hb dL_cast_10 rfl hl (by decide) rfl (fun ls hl => ?_)
  refine lv_iconst (v := (0 : Int32)) hx hb dL_cast_11 (by decide) ?_
  refine lv_istore_n (lv' := [(3, .int (0 : Int32)), (2, .int (hStr S R P)), (1, .int (S 10 0)), (0, .ref x)]) hx hb dL_cast_12 rfl hl (by decide) rfl (fun ls hl => ?_)
  refine lv_iconst (v := (0 : Int32)) hx hb dL_cast_13 (by decide) ?_
  refine lv_istore (lv' := [(4, .int (0 : Int32)), (3, .int (0 : Int32)), (2, .int (hStr S R P)), (1, .int (S 10 0)), (0, .ref x)]) hx hb dL_cast_14 hl (by decide) rfl (fun ls hl => ?_)
  have jn29 : ∀  (H : Heap) (locs : List Loc) (ls : Array Slot), va_P K.1 vwCl ([(x, .inr (5, [.ref tx, .ref ho, .ref ca, .ref tr, .ref hi, .ref sl, .ref sv]))] ++ hw K ho hoa S ++ cw K ca caa u9_7) H → va_D A ([(x, .inr (5, [.ref tx, .ref ho, .ref ca, .ref tr, .ref hi, .ref sl, .ref sv]))] ++ hw K ho hoa S ++ cw K ca caa u9_7) → va_S A s9.heap H locs → lv_has ls 8 [(0, .ref x), (1, .int (S 10 0)), (2, .int (hStr S R P)), (3, .int (0 : Int32)), (4, .int (0 : Int32))] → W p9 l e9 rm_L_cast_y s9 m9 av9 below9 meth9 c9 H locs 4 24 Q9 (F0 m9 29 ls [.int (1 : Int32)]) := by
    intro H locs ls hP hD hS hl
    refine lv_istore (lv' := [(5, .int (1 : Int32)), (0, .ref x), (1, .int (S 10 0)), (2, .int (hStr S R P)), (3, .int (0 : Int32)), (4, .int (0 : Int32))]) hx hb dL_cast_29 hl (by decide) rfl (fun ls hl => ?_)
    refine lv_iconst (v := (0 : Int32)) hx hb dL_cast_31 (by decide) ?_
    refine lv_istore (lv' := [(6, .int (0 : Int32)), (5, .int (1 : Int32)), (0, .ref x), (1, .int (S 10 0)), (2, .int (hStr S R P)), (3, .int (0 : Int32)), (4, .int (0 : Int32))]) hx hb dL_cast_32 hl (by decide) rfl (fun ls hl => ?_)
    have lp34 : ∀ (n9 : Nat) (k : Nat) (E : HV) (H : Heap) (locs : List Loc) (ls : Array Slot), R - k < n9 → (k ≤ R) → va_P K.1 vwCl ([(x, .inr (5, [.ref tx, .ref ho, .ref ca, .ref tr, .ref hi, .ref sl, .ref sv]))] ++ hw K ho hoa S ++ cw K ca caa E) H → va_D A ([(x, .inr (5, [.ref tx, .ref ho, .ref ca, .ref tr, .ref hi, .ref sl, .ref sv]))] ++ hw K ho hoa S ++ cw K ca caa E) → va_S A s9.heap H locs → lv_has ls 8 [(0, .ref x), (1, .int (S 10 0)), (2, .int (hStr S R P)), (3, .int (smw S R P k)), (4, .int (nI (tkw S R P k))), (5, .int (1 : Int32)), (6, .int (nI k))] → W p9 l e9 rm_L_cast_y s9 m9 av9 below9 meth9 c9 H locs (4 + 24 * k) (24 + 144 * k) Q9 (F0 m9 34 ls []) := by
      intro n9
      induction n9 with
      | zero => intro k E H locs ls hmu hk hP hD hS hl; exact absurd hmu (Nat.not_lt_zero _)
      | succ n9 ih34 =>
        intro k E H locs ls hmu hk hP hD hS hl
        refine lv_iload hx hb dL_cast_34 (lv_at hl 6 rfl) ?_
        refine lv_iload_n hx hb dL_cast_36 rfl (lv_at hl 1 rfl) ?_
        refine xn_icmp_ge (tgt := 184) hx hb k R rfl hR0 (by omega) (by omega) dL_cast_37 (by decide) (fun c_37 => ?_) (fun c_37 => ?_)
        · skip
          refine W.widen (k := 148) (n := 888) (by show (4 + 24 * k) ≤ 148; omega) (by show (24 + 144 * k) ≤ 888; omega) ?_
          have hkR : k = R := by omega
          rw [hkR] at hl
          refine lv_iload hx hb dL_cast_184 (lv_at hl 5 rfl) ?_
          refine lv_if_eq (tgt := 203) hx hb dL_cast_186 (by decide) (fun c_186 => ?_) (fun c_186 => ?_)
          · exact absurd c_186 (by decide)
          refine lv_iload_n hx hb dL_cast_189 rfl (lv_at hl 2 rfl) ?_
          refine lv_iconst (v := (-1 : Int32)) hx hb dL_cast_190 (by decide) ?_
          refine lv_icmp_eq (tgt := 199) hx hb dL_cast_191 (by decide) (fun c_191 => ?_) (fun c_191 => ?_)
          · exact absurd c_191 hd
          · skip
            refine lv_iload_n hx hb dL_cast_194 rfl (lv_at hl 3 rfl) ?_
            refine lv_iload_n hx hb dL_cast_195 rfl (lv_at hl 2 rfl) ?_
            refine lv_icmp_ne (tgt := 203) hx hb dL_cast_196 (by decide) (fun c_196 => ?_) (fun c_196 => ?_)
            · exact absurd (cv_sum hP0b hd) c_196
            · skip
              refine lv_iconst (v := (1 : Int32)) hx hb dL_cast_199 (by decide) ?_
              refine lv_goto (tgt := 204) hx hb dL_cast_200 (by decide) ?_
              refine lv_istore (lv' := [(5, .int (1 : Int32)), (0, .ref x), (1, .int (S 10 0)), (2, .int (hStr S R P)), (3, .int (smw S R P R)), (4, .int (nI (tkw S R P R))), (6, .int (nI R))]) hx hb dL_cast_204 hl (by decide) rfl (fun ls hl => ?_)
              refine lv_iconst (v := (0 : Int32)) hx hb dL_cast_206 (by decide) ?_
              refine lv_istore (lv' := [(6, .int (0 : Int32)), (5, .int (1 : Int32)), (0, .ref x), (1, .int (S 10 0)), (2, .int (hStr S R P)), (3, .int (smw S R P R)), (4, .int (nI (tkw S R P R)))]) hx hb dL_cast_207 hl (by decide) rfl (fun ls hl => ?_)
              have lp209 : ∀ (n9 : Nat) (j : Nat) (E : HV) (H : Heap) (locs : List Loc) (ls : Array Slot), P - j < n9 → (j ≤ P) → va_P K.1 vwCl ([(x, .inr (5, [.ref tx, .ref ho, .ref ca, .ref tr, .ref hi, .ref sl, .ref sv]))] ++ hw K ho hoa S ++ cw K ca caa E) H → va_D A ([(x, .inr (5, [.ref tx, .ref ho, .ref ca, .ref tr, .ref hi, .ref sl, .ref sv]))] ++ hw K ho hoa S ++ cw K ca caa E) → va_S A s9.heap H locs → lv_has ls 8 [(0, .ref x), (1, .int (S 10 0)), (2, .int (hStr S R P)), (3, .int (smw S R P R)), (4, .int (nI (tkw S R P R))), (5, .int (1 : Int32)), (6, .int (nI j))] → W p9 l e9 rm_L_cast_y s9 m9 av9 below9 meth9 c9 H locs (148 + 12 * j) (888 + 72 * j) Q9 (F0 m9 209 ls []) := by
                intro n9
                induction n9 with
                | zero => intro j E H locs ls hmu hj hP hD hS hl; exact absurd hmu (Nat.not_lt_zero _)
                | succ n9 ih209 =>
                  intro j E H locs ls hmu hj hP hD hS hl
                  have htR := cv_lt hP0b hd (Nat.le_refl R)
                  refine lv_iload hx hb dL_cast_209 (lv_at hl 6 rfl) ?_
                  refine lv_aload_n hx hb dL_cast_211 rfl (lv_at hl 0 rfl) ?_
                  refine lv_iconst (v := (1 : Int32)) hx hb dL_cast_212 (by decide) ?_
                  refine xs_Vi (As := [.int (1 : Int32)]) (rest := [.int (nI j)]) (wc := [(x, .inr (5, [.ref tx, .ref ho, .ref ca, .ref tr, .ref hi, .ref sl, .ref sv]))] ++ hw K ho hoa S) (wr := (List.filterMap (fun i => ([(x, .inr (5, [.ref tx, .ref ho, .ref ca, .ref tr, .ref hi, .ref sl, .ref sv]))] ++ hw K ho hoa S ++ cw K ca caa E : va_W)[i]?) ([12, 13, 14, 15] : List Nat))) ⟨hx, hb, hml, hown, hts⟩ (c_X5_about_1 l K x tx ho ca tr hi sl sv hoa S P hP0 (by omega) (by first | assumption | omega) (by first | assumption | omega) H.size) (cwV 1 hts gL_cast_X5_about rfl rfl rfl (by decide +kernel) ⟨Nat.le_of_ble_eq_true rfl, Nat.le_of_ble_eq_true rfl⟩) hK hP hD hS hZ hA [0, 1, 2, 3, 4, 5, 6, 7, 8, 9, 10, 11] [12, 13, 14, 15] [4, 5, 6, 7, 8, 9, 10, 11, 12, 13, 14, 15, 0, 1, 2, 3] rfl rfl rfl (fun _u => [(x, .inr (5, [.ref tx, .ref ho, .ref ca, .ref tr, .ref hi, .ref sl, .ref sv]))] ++ hw K ho hoa S ++ cw K ca caa E) (fun _ => rfl) 0 5 rfl rfl rfl rfl hl.1 rfl (Nat.le_of_ble_eq_true rfl) (by show (148 + 12 * j) + 4 ≤ 300; omega) (by show (888 + 72 * j) + 24 ≤ 1800; omega) dL_cast_213 (fun r213 _ H locs hq213 hP hD hS => ?_)
                  have hP : va_P K.1 vwCl ([(x, .inr (5, [.ref tx, .ref ho, .ref ca, .ref tr, .ref hi, .ref sl, .ref sv]))] ++ hw K ho hoa S ++ cw K ca caa E) H := hP
                  have hD : va_D A ([(x, .inr (5, [.ref tx, .ref ho, .ref ca, .ref tr, .ref hi, .ref sl, .ref sv]))] ++ hw K ho hoa S ++ cw K ca caa E) := hD
                  subst hq213
                  refine xn_icmp_ge (tgt := 302) hx hb j P rfl hP0 (by omega) (by omega) dL_cast_216 (by decide) (fun c_216 => ?_) (fun c_216 => ?_)
                  · skip
                    refine W.widen (k := 272) (n := 1632) (by show ((148 + 12 * j) + 4) ≤ 272; omega) (by show ((888 + 72 * j) + 24) ≤ 1632; omega) ?_
                    refine lv_iload hx hb dL_cast_302 (lv_at hl 5 rfl) ?_
                    exact hend _ _ _ _ _ _ _ (by decide) E hP hD hS (Nat.le_of_ble_eq_true rfl) (Nat.le_of_ble_eq_true rfl) (by first | rfl | (simp [c_37, c_191, c_196, c_216]; done) | omega) dL_cast_304
                  · skip
                    refine lv_iload hx hb dL_cast_219 (lv_at hl 5 rfl) ?_
                    refine lv_if_eq (tgt := 302) hx hb dL_cast_221 (by decide) (fun c_221 => ?_) (fun c_221 => ?_)
                    · exact absurd c_221 (by decide)
                    refine lv_aload_n hx hb dL_cast_224 rfl (lv_at hl 0 rfl) ?_
                    refine lv_iload hx hb dL_cast_225 (lv_at hl 6 rfl) ?_
                    refine xs_Vi (As := [.int (nI j)]) (rest := []) (wc := [(x, .inr (5, [.ref tx, .ref ho, .ref ca, .ref tr, .ref hi, .ref sl, .ref sv]))] ++ hw K ho hoa S ++ cw K ca caa E) (wr := (List.filterMap (fun i => ([(x, .inr (5, [.ref tx, .ref ho, .ref ca, .ref tr, .ref hi, .ref sl, .ref sv]))] ++ hw K ho hoa S ++ cw K ca caa E : va_W)[i]?) ([] : List Nat))) ⟨hx, hb, hml, hown, hts⟩ (c_X5_without_n l K x tx ho ca tr hi sl sv j hoa S caa E R hR0 (by omega) P hP0 (by omega) (by first | assumption | omega) (by first | assumption | omega) H.size) (cwV 1 hts gL_cast_X5_without rfl rfl rfl (by decide +kernel) ⟨Nat.le_of_ble_eq_true rfl, Nat.le_of_ble_eq_true rfl⟩) hK hP hD hS hZ hA [0, 1, 2, 3, 4, 5, 6, 7, 8, 9, 10, 11, 12, 13, 14, 15] [] [0, 1, 2, 3, 4, 5, 6, 7, 8, 9, 10, 11, 12, 13, 14, 15] rfl rfl rfl (fun u9_227 => [(x, .inr (5, [.ref tx, .ref ho, .ref ca, .ref tr, .ref hi, .ref sl, .ref sv]))] ++ hw K ho hoa S ++ cw K ca caa u9_227) (fun _ => rfl) 0 5 rfl rfl rfl rfl hl.1 rfl (Nat.le_of_ble_eq_true rfl) (by show ((148 + 12 * j) + 4) + 4 ≤ 300; omega) (by show ((888 + 72 * j) + 24) + 24 ≤ 1800; omega) dL_cast_227 (fun r227 u9_227 H locs hq227 hP hD hS => ?_)
                    have hP : va_P K.1 vwCl ([(x, .inr (5, [.ref tx, .ref ho, .ref ca, .ref tr, .ref hi, .ref sl, .ref sv]))] ++ hw K ho hoa S ++ cw K ca caa u9_227) H := hP
                    have hD : va_D A ([(x, .inr (5, [.ref tx, .ref ho, .ref ca, .ref tr, .ref hi, .ref sl, .ref sv]))] ++ hw K ho hoa S ++ cw K ca caa u9_227) := hD
                    subst hq227
                    refine lv_istore (lv' := [(7, .int (dpS (wFr S (frB S j P)) R P R 0)), (0, .ref x), (1, .int (S 10 0)), (2, .int (hStr S R P)), (3, .int (smw S R P R)), (4, .int (nI (tkw S R P R))), (5, .int (1 : Int32)), (6, .int (nI j))]) hx hb dL_cast_230 hl (by decide) rfl (fun ls hl => ?_)
                    refine lv_iload hx hb dL_cast_232 (lv_at hl 0 rfl) ?_
                    refine lv_iload_n hx hb dL_cast_234 rfl (lv_at hl 3 rfl) ?_
                    refine lv_icmp_gt (tgt := 293) hx hb dL_cast_235 (by decide) (fun c_235 => ?_) (fun c_235 => ?_)
                    · exact absurd (cv_le hP0b hR0b hC j) (Int32.not_le.mpr c_235)
                    · skip
                      have c_235n := Int32.not_lt.mp c_235
                      refine lv_iload hx hb dL_cast_238 (lv_at hl 5 rfl) ?_
                      refine lv_iload hx hb dL_cast_240 (lv_at hl 7 rfl) ?_
                      refine lv_ishr hx hb dL_cast_242 ?_
                      refine lv_iconst (v := (1 : Int32)) hx hb dL_cast_243 (by decide) ?_
                      refine lv_iand hx hb dL_cast_244 ?_
                      refine lv_iconst (v := (1 : Int32)) hx hb dL_cast_245 (by decide) ?_
                      have hand2 : tkw S R P R / 2 ^ j &&& 1 ≤ 1 := Nat.and_le_right
                      refine xn_icmp_eq (tgt := 255) hx hb (((tkw S R P R) / 2 ^ j) &&& 1) 1 (nn_and (nn_shr rfl rfl (by omega) (by omega)) rfl) rfl (by omega) (by decide) dL_cast_246 (by decide) (fun c_246 => ?_) (fun c_246 => ?_)
                      · skip
                        refine lv_aload_n hx hb dL_cast_255 rfl (lv_at hl 1 rfl) ?_
                        refine lv_iload hx hb dL_cast_256 (lv_at hl 7 rfl) ?_
                        refine lv_iconst (v := (5 : Int32)) hx hb dL_cast_258 (by decide) ?_
                        refine xs_Vi (As := [.int (nI j), .int (5 : Int32)]) (rest := []) (wc := [(x, .inr (5, [.ref tx, .ref ho, .ref ca, .ref tr, .ref hi, .ref sl, .ref sv]))] ++ hw K ho hoa S ++ cw K ca caa u9_227) (wr := (List.filterMap (fun i => ([(x, .inr (5, [.ref tx, .ref ho, .ref ca, .ref tr, .ref hi, .ref sl, .ref sv]))] ++ hw K ho hoa S ++ cw K ca caa u9_227 : va_W)[i]?) ([] : List Nat))) ⟨hx, hb, hml, hown, hts⟩ (c_X5_player_5 l K x tx ho ca tr hi sl sv j hoa S caa u9_227 R hR0 (by omega) P hP0 (by omega) (by first | assumption | omega) (by first | assumption | omega) H.size) (cwV 2 hts gL_cast_X5_player rfl rfl rfl (by decide +kernel) ⟨Nat.le_of_ble_eq_true rfl, Nat.le_of_ble_eq_true rfl⟩) hK hP hD hS hZ hA [0, 1, 2, 3, 4, 5, 6, 7, 8, 9, 10, 11, 12, 13, 14, 15] [] [0, 1, 2, 3, 4, 5, 6, 7, 8, 9, 10, 11, 12, 13, 14, 15] rfl rfl rfl (fun u9_259 => [(x, .inr (5, [.ref tx, .ref ho, .ref ca, .ref tr, .ref hi, .ref sl, .ref sv]))] ++ hw K ho hoa S ++ cw K ca caa u9_259) (fun _ => rfl) 0 5 rfl rfl rfl rfl hl.1 rfl (Nat.le_of_ble_eq_true rfl) (by show (((148 + 12 * j) + 4) + 4) + 4 ≤ 300; omega) (by show (((888 + 72 * j) + 24) + 24) + 24 ≤ 1800; omega) dL_cast_259 (fun r259 u9_259 H locs hq259 hP hD hS => ?_)
                        have hP : va_P K.1 vwCl ([(x, .inr (5, [.ref tx, .ref ho, .ref ca, .ref tr, .ref hi, .ref sl, .ref sv]))] ++ hw K ho hoa S ++ cw K ca caa u9_259) H := hP
                        have hD : va_D A ([(x, .inr (5, [.ref tx, .ref ho, .ref ca, .ref tr, .ref hi, .ref sl, .ref sv]))] ++ hw K ho hoa S ++ cw K ca caa u9_259) := hD
                        subst hq259
                        refine lv_if_lt (tgt := 269) hx hb dL_cast_262 (by decide) (fun c_262 => ?_) (fun c_262 => ?_)
                        · exact absurd c_262 (cv_in hP0b hR0b hd c_216 ((bit_div _ _).mp c_246))
                        · skip
                          have c_262n := Int32.not_lt.mp c_262
                          refine lv_iconst (v := (1 : Int32)) hx hb dL_cast_265 (by decide) ?_
                          refine lv_goto (tgt := 270) hx hb dL_cast_266 (by decide) ?_
                          refine lv_iload hx hb dL_cast_270 (lv_at hl 5 rfl) ?_
                          refine lv_iload hx hb dL_cast_272 (lv_at hl 7 rfl) ?_
                          refine lv_ishr hx hb dL_cast_274 ?_
                          refine lv_iconst (v := (1 : Int32)) hx hb dL_cast_275 (by decide) ?_
                          refine lv_iand hx hb dL_cast_276 ?_
                          refine lv_iconst (v := (1 : Int32)) hx hb dL_cast_277 (by decide) ?_
                          refine xn_icmp_ne (tgt := 285) hx hb (((tkw S R P R) / 2 ^ j) &&& 1) 1 (nn_and (nn_shr rfl rfl (by omega) (by omega)) rfl) rfl (by omega) (by decide) dL_cast_278 (by decide) (fun c_278 => ?_) (fun c_278 => ?_)
                          · exact absurd c_246 c_278
                          · skip
                            refine lv_iconst (v := (1 : Int32)) hx hb dL_cast_281 (by decide) ?_
                            refine lv_goto (tgt := 286) hx hb dL_cast_282 (by decide) ?_
                            refine lv_icmp_ne (tgt := 293) hx hb dL_cast_286 (by decide) (fun c_286 => ?_) (fun c_286 => ?_)
                            · exact absurd c_286 (by decide)
                            refine lv_iconst (v := (1 : Int32)) hx hb dL_cast_289 (by decide) ?_
                            refine lv_goto (tgt := 294) hx hb dL_cast_290 (by decide) ?_
                            refine lv_istore (lv' := [(5, .int (1 : Int32)), (7, .int (dpS (wFr S (frB S j P)) R P R 0)), (0, .ref x), (1, .int (S 10 0)), (2, .int (hStr S R P)), (3, .int (smw S R P R)), (4, .int (nI (tkw S R P R))), (6, .int (nI j))]) hx hb dL_cast_294 hl (by decide) rfl (fun ls hl => ?_)
                            refine lv_iinc (v := nI (j + 1)) (lv' := [(6, .int (nI (j + 1))), (5, .int (1 : Int32)), (7, .int (dpS (wFr S (frB S j P)) R P R 0)), (0, .ref x), (1, .int (S 10 0)), (2, .int (hStr S R P)), (3, .int (smw S R P R)), (4, .int (nI (tkw S R P R)))]) hx hb dL_cast_296 hl (k := 7) rfl (nI_1 _) (by decide) rfl (fun ls hl => ?_)
                            refine lv_goto (tgt := 209) hx hb dL_cast_299 (by decide) ?_
                            refine W.widen (k := (148 + 12 * (j + 1))) (n := (888 + 72 * (j + 1))) (by show ((((148 + 12 * j) + 4) + 4) + 4) ≤ (148 + 12 * (j + 1)); omega) (by show ((((888 + 72 * j) + 24) + 24) + 24) ≤ (888 + 72 * (j + 1)); omega) ?_
                            exact ih209 (j + 1) u9_259 _ _ _ (by omega) (by first | omega | assumption | first | rfl | (simp [c_37, c_191, c_196, c_216, c_235, c_235n, c_246, c_262, c_262n, c_278]; done) | omega) hP hD hS (lv_cons (lv_at hl 3 rfl) (lv_cons (lv_at hl 4 rfl) (lv_cons (lv_at hl 5 rfl) (lv_cons (lv_at hl 6 rfl) (lv_cons (lv_at hl 7 rfl) (lv_cons (lv_at hl 1 rfl) (lv_cons (lv_at hl 0 rfl) (lv_nil hl))))))))
                      · skip
                        refine lv_iload hx hb dL_cast_249 (lv_at hl 0 rfl) ?_
                        refine lv_iload_n hx hb dL_cast_251 rfl (lv_at hl 3 rfl) ?_
                        refine lv_icmp_ne (tgt := 293) hx hb dL_cast_252 (by decide) (fun c_252 => ?_) (fun c_252 => ?_)
                        · exact absurd (cv_eq hP0b hR0b hC hd (fun z => c_246 ((bit_div _ _).mpr z))) c_252
                        · skip
                          refine lv_aload_n hx hb dL_cast_255 rfl (lv_at hl 1 rfl) ?_
                          refine lv_iload hx hb dL_cast_256 (lv_at hl 7 rfl) ?_
                          refine lv_iconst (v := (5 : Int32)) hx hb dL_cast_258 (by decide) ?_
                          refine xs_Vi (As := [.int (nI j), .int (5 : Int32)]) (rest := []) (wc := [(x, .inr (5, [.ref tx, .ref ho, .ref ca, .ref tr, .ref hi, .ref sl, .ref sv]))] ++ hw K ho hoa S ++ cw K ca caa u9_227) (wr := (List.filterMap (fun i => ([(x, .inr (5, [.ref tx, .ref ho, .ref ca, .ref tr, .ref hi, .ref sl, .ref sv]))] ++ hw K ho hoa S ++ cw K ca caa u9_227 : va_W)[i]?) ([] : List Nat))) ⟨hx, hb, hml, hown, hts⟩ (c_X5_player_5 l K x tx ho ca tr hi sl sv j hoa S caa u9_227 R hR0 (by omega) P hP0 (by omega) (by first | assumption | omega) (by first | assumption | omega) H.size) (cwV 2 hts gL_cast_X5_player rfl rfl rfl (by decide +kernel) ⟨Nat.le_of_ble_eq_true rfl, Nat.le_of_ble_eq_true rfl⟩) hK hP hD hS hZ hA [0, 1, 2, 3, 4, 5, 6, 7, 8, 9, 10, 11, 12, 13, 14, 15] [] [0, 1, 2, 3, 4, 5, 6, 7, 8, 9, 10, 11, 12, 13, 14, 15] rfl rfl rfl (fun u9_259 => [(x, .inr (5, [.ref tx, .ref ho, .ref ca, .ref tr, .ref hi, .ref sl, .ref sv]))] ++ hw K ho hoa S ++ cw K ca caa u9_259) (fun _ => rfl) 0 5 rfl rfl rfl rfl hl.1 rfl (Nat.le_of_ble_eq_true rfl) (by show (((148 + 12 * j) + 4) + 4) + 4 ≤ 300; omega) (by show (((888 + 72 * j) + 24) + 24) + 24 ≤ 1800; omega) dL_cast_259 (fun r259 u9_259 H locs hq259 hP hD hS => ?_)
                          have hP : va_P K.1 vwCl ([(x, .inr (5, [.ref tx, .ref ho, .ref ca, .ref tr, .ref hi, .ref sl, .ref sv]))] ++ hw K ho hoa S ++ cw K ca caa u9_259) H := hP
                          have hD : va_D A ([(x, .inr (5, [.ref tx, .ref ho, .ref ca, .ref tr, .ref hi, .ref sl, .ref sv]))] ++ hw K ho hoa S ++ cw K ca caa u9_259) := hD
                          subst hq259
                          refine lv_if_lt (tgt := 269) hx hb dL_cast_262 (by decide) (fun c_262 => ?_) (fun c_262 => ?_)
                          · skip
                            have c_262n := Int32.not_le.mpr c_262
                            refine lv_iconst (v := (0 : Int32)) hx hb dL_cast_269 (by decide) ?_
                            refine lv_iload hx hb dL_cast_270 (lv_at hl 5 rfl) ?_
                            refine lv_iload hx hb dL_cast_272 (lv_at hl 7 rfl) ?_
                            refine lv_ishr hx hb dL_cast_274 ?_
                            refine lv_iconst (v := (1 : Int32)) hx hb dL_cast_275 (by decide) ?_
                            refine lv_iand hx hb dL_cast_276 ?_
                            refine lv_iconst (v := (1 : Int32)) hx hb dL_cast_277 (by decide) ?_
                            refine xn_icmp_ne (tgt := 285) hx hb (((tkw S R P R) / 2 ^ j) &&& 1) 1 (nn_and (nn_shr rfl rfl (by omega) (by omega)) rfl) rfl (by omega) (by decide) dL_cast_278 (by decide) (fun c_278 => ?_) (fun c_278 => ?_)
                            · skip
                              refine lv_iconst (v := (0 : Int32)) hx hb dL_cast_285 (by decide) ?_
                              refine lv_icmp_ne (tgt := 293) hx hb dL_cast_286 (by decide) (fun c_286 => ?_) (fun c_286 => ?_)
                              · exact absurd c_286 (by decide)
                              refine lv_iconst (v := (1 : Int32)) hx hb dL_cast_289 (by decide) ?_
                              refine lv_goto (tgt := 294) hx hb dL_cast_290 (by decide) ?_
                              refine lv_istore (lv' := [(5, .int (1 : Int32)), (7, .int (dpS (wFr S (frB S j P)) R P R 0)), (0, .ref x), (1, .int (S 10 0)), (2, .int (hStr S R P)), (3, .int (smw S R P R)), (4, .int (nI (tkw S R P R))), (6, .int (nI j))]) hx hb dL_cast_294 hl (by decide) rfl (fun ls hl => ?_)
                              refine lv_iinc (v := nI (j + 1)) (lv' := [(6, .int (nI (j + 1))), (5, .int (1 : Int32)), (7, .int (dpS (wFr S (frB S j P)) R P R 0)), (0, .ref x), (1, .int (S 10 0)), (2, .int (hStr S R P)), (3, .int (smw S R P R)), (4, .int (nI (tkw S R P R)))]) hx hb dL_cast_296 hl (k := 7) rfl (nI_1 _) (by decide) rfl (fun ls hl => ?_)
                              refine lv_goto (tgt := 209) hx hb dL_cast_299 (by decide) ?_
                              refine W.widen (k := (148 + 12 * (j + 1))) (n := (888 + 72 * (j + 1))) (by show ((((148 + 12 * j) + 4) + 4) + 4) ≤ (148 + 12 * (j + 1)); omega) (by show ((((888 + 72 * j) + 24) + 24) + 24) ≤ (888 + 72 * (j + 1)); omega) ?_
                              exact ih209 (j + 1) u9_259 _ _ _ (by omega) (by first | omega | assumption | first | rfl | (simp [c_37, c_191, c_196, c_216, c_235, c_235n, c_246, c_252, c_262, c_262n, c_278]; done) | omega) hP hD hS (lv_cons (lv_at hl 3 rfl) (lv_cons (lv_at hl 4 rfl) (lv_cons (lv_at hl 5 rfl) (lv_cons (lv_at hl 6 rfl) (lv_cons (lv_at hl 7 rfl) (lv_cons (lv_at hl 1 rfl) (lv_cons (lv_at hl 0 rfl) (lv_nil hl))))))))
                            · exact absurd c_278 c_246
                          · exact absurd (show fstF (fun r => decide (hCs S R P r = nI j)) 0 R < 0 by rw [cv_out hP0b hd c_216 (fun z => c_246 ((bit_div _ _).mpr z))]; decide) c_262
              refine W.widen (k := (148 + 12 * 0)) (n := (888 + 72 * 0)) (by show 148 ≤ (148 + 12 * 0); omega) (by show 888 ≤ (888 + 72 * 0); omega) ?_
              exact lp209 _ 0 E _ _ _ (Nat.lt_succ_self _) (by first | omega | assumption | first | rfl | (simp [c_37, c_191, c_196]; done) | omega) hP hD hS (lv_cons (lv_at hl 2 rfl) (lv_cons (lv_at hl 3 rfl) (lv_cons (lv_at hl 4 rfl) (lv_cons (lv_at hl 5 rfl) (lv_cons (lv_at hl 6 rfl) (lv_cons (lv_at hl 1 rfl) (lv_cons (lv_is (lv_at hl 0 rfl) (show (0 : Int32) = nI 0 by first | rfl | (simp [c_37, c_191, c_196]; done) | omega)) (lv_nil hl))))))))
        · skip
          refine lv_iload hx hb dL_cast_40 (lv_at hl 5 rfl) ?_
          refine lv_if_eq (tgt := 184) hx hb dL_cast_42 (by decide) (fun c_42 => ?_) (fun c_42 => ?_)
          · exact absurd c_42 (by decide)
          refine lv_aload_n hx hb dL_cast_45 rfl (lv_at hl 0 rfl) ?_
          refine lv_iload hx hb dL_cast_46 (lv_at hl 6 rfl) ?_
          refine lv_iconst (v := (2 : Int32)) hx hb dL_cast_48 (by decide) ?_
          refine xs_Vi (As := [.int (nI k), .int (2 : Int32)]) (rest := []) (wc := [(x, .inr (5, [.ref tx, .ref ho, .ref ca, .ref tr, .ref hi, .ref sl, .ref sv]))] ++ hw K ho hoa S ++ cw K ca caa E) (wr := (List.filterMap (fun i => ([(x, .inr (5, [.ref tx, .ref ho, .ref ca, .ref tr, .ref hi, .ref sl, .ref sv]))] ++ hw K ho hoa S ++ cw K ca caa E : va_W)[i]?) ([] : List Nat))) ⟨hx, hb, hml, hown, hts⟩ (c_X5_role_2 l K x tx ho ca tr hi sl sv k hoa S caa E R hR0 (by omega) P hP0 (by omega) (by first | assumption | omega) (by first | assumption | omega) H.size) (cwV 2 hts gL_cast_X5_role rfl rfl rfl (by decide +kernel) ⟨Nat.le_of_ble_eq_true rfl, Nat.le_of_ble_eq_true rfl⟩) hK hP hD hS hZ hA [0, 1, 2, 3, 4, 5, 6, 7, 8, 9, 10, 11, 12, 13, 14, 15] [] [0, 1, 2, 3, 4, 5, 6, 7, 8, 9, 10, 11, 12, 13, 14, 15] rfl rfl rfl (fun u9_49 => [(x, .inr (5, [.ref tx, .ref ho, .ref ca, .ref tr, .ref hi, .ref sl, .ref sv]))] ++ hw K ho hoa S ++ cw K ca caa u9_49) (fun _ => rfl) 0 5 rfl rfl rfl rfl hl.1 rfl (Nat.le_of_ble_eq_true rfl) (by show (4 + 24 * k) + 4 ≤ 300; omega) (by show (24 + 144 * k) + 24 ≤ 1800; omega) dL_cast_49 (fun r49 u9_49 H locs hq49 hP hD hS => ?_)
          have hP : va_P K.1 vwCl ([(x, .inr (5, [.ref tx, .ref ho, .ref ca, .ref tr, .ref hi, .ref sl, .ref sv]))] ++ hw K ho hoa S ++ cw K ca caa u9_49) H := hP
          have hD : va_D A ([(x, .inr (5, [.ref tx, .ref ho, .ref ca, .ref tr, .ref hi, .ref sl, .ref sv]))] ++ hw K ho hoa S ++ cw K ca caa u9_49) := hD
          subst hq49
          have hck := (cv_c hP0b hd c_37).2
          have htk := cv_lt hP0b hd (show k ≤ R by omega)
          rw [show hCs S R P k = nI (pkw S R P k) from (cv_c hP0b hd c_37).1]
          refine lv_istore (lv' := [(7, .int (nI (pkw S R P k))), (0, .ref x), (1, .int (S 10 0)), (2, .int (hStr S R P)), (3, .int (smw S R P k)), (4, .int (nI (tkw S R P k))), (5, .int (1 : Int32)), (6, .int (nI k))]) hx hb dL_cast_52 hl (by decide) rfl (fun ls hl => ?_)
          refine lv_iload hx hb dL_cast_54 (lv_at hl 0 rfl) ?_
          refine lv_iconst (v := (-1 : Int32)) hx hb dL_cast_56 (by decide) ?_
          refine lv_icmp_ne (tgt := 64) hx hb dL_cast_57 (by decide) (fun c_57 => ?_) (fun c_57 => ?_)
          · skip
            refine lv_iconst (v := (0 : Int32)) hx hb dL_cast_64 (by decide) ?_
            refine lv_iload_n hx hb dL_cast_65 rfl (lv_at hl 3 rfl) ?_
            refine lv_iconst (v := (-1 : Int32)) hx hb dL_cast_66 (by decide) ?_
            refine lv_icmp_ne (tgt := 74) hx hb dL_cast_67 (by decide) (fun c_67 => ?_) (fun c_67 => ?_)
            · skip
              refine lv_iconst (v := (0 : Int32)) hx hb dL_cast_74 (by decide) ?_
              refine lv_icmp_ne (tgt := 82) hx hb dL_cast_75 (by decide) (fun c_75 => ?_) (fun c_75 => ?_)
              · exact absurd c_75 (by decide)
              refine lv_iconst (v := (1 : Int32)) hx hb dL_cast_78 (by decide) ?_
              refine lv_goto (tgt := 83) hx hb dL_cast_79 (by decide) ?_
              refine lv_istore (lv' := [(5, .int (1 : Int32)), (7, .int (nI (pkw S R P k))), (0, .ref x), (1, .int (S 10 0)), (2, .int (hStr S R P)), (3, .int (smw S R P k)), (4, .int (nI (tkw S R P k))), (6, .int (nI k))]) hx hb dL_cast_83 hl (by decide) rfl (fun ls hl => ?_)
              refine lv_iload hx hb dL_cast_85 (lv_at hl 0 rfl) ?_
              refine lv_if_eq (tgt := 178) hx hb dL_cast_87 (by decide) (fun c_87 => ?_) (fun c_87 => ?_)
              · exact absurd c_87 (by decide)
              refine lv_iload hx hb dL_cast_90 (lv_at hl 1 rfl) ?_
              refine xn_if_lt (tgt := 178) hx hb (pkw S R P k) rfl (by omega) dL_cast_92 (by decide) ?_
              refine lv_iload hx hb dL_cast_95 (lv_at hl 6 rfl) ?_
              refine lv_iload hx hb dL_cast_97 (lv_at hl 1 rfl) ?_
              refine lv_ishr hx hb dL_cast_99 ?_
              refine lv_iconst (v := (1 : Int32)) hx hb dL_cast_100 (by decide) ?_
              refine lv_iand hx hb dL_cast_101 ?_
              have hand1 : tkw S R P k / 2 ^ pkw S R P k &&& 1 ≤ 1 := Nat.and_le_right
              refine xn_if_ne (tgt := 154) hx hb (((tkw S R P k) / 2 ^ (pkw S R P k)) &&& 1) (nn_and (nn_shr rfl rfl (by omega) (by omega)) rfl) (by omega) dL_cast_102 (by decide) (fun c_102 => ?_) (fun c_102 => ?_)
              · exact absurd (bit_and0 (cv_bit hP0b hd c_37)) c_102
              · skip
                refine lv_aload_n hx hb dL_cast_105 rfl (lv_at hl 2 rfl) ?_
                refine lv_iload hx hb dL_cast_106 (lv_at hl 1 rfl) ?_
                refine lv_iconst (v := (3 : Int32)) hx hb dL_cast_108 (by decide) ?_
                refine xs_Vi (As := [.int (nI (pkw S R P k)), .int (3 : Int32)]) (rest := []) (wc := [(x, .inr (5, [.ref tx, .ref ho, .ref ca, .ref tr, .ref hi, .ref sl, .ref sv]))] ++ hw K ho hoa S ++ cw K ca caa u9_49) (wr := (List.filterMap (fun i => ([(x, .inr (5, [.ref tx, .ref ho, .ref ca, .ref tr, .ref hi, .ref sl, .ref sv]))] ++ hw K ho hoa S ++ cw K ca caa u9_49 : va_W)[i]?) ([] : List Nat))) ⟨hx, hb, hml, hown, hts⟩ (c_X5_player_3 l K x tx ho ca tr hi sl sv (pkw S R P k) hoa S caa u9_49 R hR0 (by omega) P hP0 (by omega) (by first | assumption | omega) (by first | assumption | omega) H.size) (cwV 2 hts gL_cast_X5_player rfl rfl rfl (by decide +kernel) ⟨Nat.le_of_ble_eq_true rfl, Nat.le_of_ble_eq_true rfl⟩) hK hP hD hS hZ hA [0, 1, 2, 3, 4, 5, 6, 7, 8, 9, 10, 11, 12, 13, 14, 15] [] [0, 1, 2, 3, 4, 5, 6, 7, 8, 9, 10, 11, 12, 13, 14, 15] rfl rfl rfl (fun u9_109 => [(x, .inr (5, [.ref tx, .ref ho, .ref ca, .ref tr, .ref hi, .ref sl, .ref sv]))] ++ hw K ho hoa S ++ cw K ca caa u9_109) (fun _ => rfl) 0 5 rfl rfl rfl rfl hl.1 rfl (Nat.le_of_ble_eq_true rfl) (by show ((4 + 24 * k) + 4) + 4 ≤ 300; omega) (by show ((24 + 144 * k) + 24) + 24 ≤ 1800; omega) dL_cast_109 (fun r109 u9_109 H locs hq109 hP hD hS => ?_)
                have hP : va_P K.1 vwCl ([(x, .inr (5, [.ref tx, .ref ho, .ref ca, .ref tr, .ref hi, .ref sl, .ref sv]))] ++ hw K ho hoa S ++ cw K ca caa u9_109) H := hP
                have hD : va_D A ([(x, .inr (5, [.ref tx, .ref ho, .ref ca, .ref tr, .ref hi, .ref sl, .ref sv]))] ++ hw K ho hoa S ++ cw K ca caa u9_109) := hD
                subst hq109
                refine lv_iconst (v := (1 : Int32)) hx hb dL_cast_112 (by decide) ?_
                refine lv_icmp_ne (tgt := 154) hx hb dL_cast_113 (by decide) (fun c_113 => ?_) (fun c_113 => ?_)
                · exact absurd (bI_t (cv_w hP0b hd c_37).1) c_113
                · skip
                  refine lv_aload_n hx hb dL_cast_116 rfl (lv_at hl 2 rfl) ?_
                  refine lv_iload hx hb dL_cast_117 (lv_at hl 1 rfl) ?_
                  refine lv_iload hx hb dL_cast_119 (lv_at hl 7 rfl) ?_
                  refine lv_iconst (v := (0 : Int32)) hx hb dL_cast_121 (by decide) ?_
                  refine xs_Vi (As := [.int (nI (pkw S R P k)), .int (nI k), .int (0 : Int32)]) (rest := []) (wc := [(x, .inr (5, [.ref tx, .ref ho, .ref ca, .ref tr, .ref hi, .ref sl, .ref sv]))] ++ hw K ho hoa S) (wr := (List.filterMap (fun i => ([(x, .inr (5, [.ref tx, .ref ho, .ref ca, .ref tr, .ref hi, .ref sl, .ref sv]))] ++ hw K ho hoa S ++ cw K ca caa u9_109 : va_W)[i]?) ([12, 13, 14, 15] : List Nat))) ⟨hx, hb, hml, hown, hts⟩ (c_X5_both_0 l K x tx ho ca tr hi sl sv (pkw S R P k) k hoa S R hR0 (by omega) P hP0 (by omega) (by first | assumption | omega) (by first | assumption | omega) (by first | assumption | omega) H.size) (cwV 3 hts gL_cast_X5_both rfl rfl rfl (by decide +kernel) ⟨Nat.le_of_ble_eq_true rfl, Nat.le_of_ble_eq_true rfl⟩) hK hP hD hS hZ hA [0, 1, 2, 3, 4, 5, 6, 7, 8, 9, 10, 11] [12, 13, 14, 15] [4, 5, 6, 7, 8, 9, 10, 11, 12, 13, 14, 15, 0, 1, 2, 3] rfl rfl rfl (fun _u => [(x, .inr (5, [.ref tx, .ref ho, .ref ca, .ref tr, .ref hi, .ref sl, .ref sv]))] ++ hw K ho hoa S ++ cw K ca caa u9_109) (fun _ => rfl) 0 5 rfl rfl rfl rfl hl.1 rfl (Nat.le_of_ble_eq_true rfl) (by show (((4 + 24 * k) + 4) + 4) + 4 ≤ 300; omega) (by show (((24 + 144 * k) + 24) + 24) + 24 ≤ 1800; omega) dL_cast_122 (fun r122 _ H locs hq122 hP hD hS => ?_)
                  have hP : va_P K.1 vwCl ([(x, .inr (5, [.ref tx, .ref ho, .ref ca, .ref tr, .ref hi, .ref sl, .ref sv]))] ++ hw K ho hoa S ++ cw K ca caa u9_109) H := hP
                  have hD : va_D A ([(x, .inr (5, [.ref tx, .ref ho, .ref ca, .ref tr, .ref hi, .ref sl, .ref sv]))] ++ hw K ho hoa S ++ cw K ca caa u9_109) := hD
                  subst hq122
                  refine lv_if_le (tgt := 154) hx hb dL_cast_125 (by decide) (fun c_125 => ?_) (fun c_125 => ?_)
                  · exact absurd (cv_deg hC hP0b hd c_37) (Int32.not_lt.mpr c_125)
                  · skip
                    have c_125n := Int32.not_le.mp c_125
                    refine lv_aload_n hx hb dL_cast_128 rfl (lv_at hl 2 rfl) ?_
                    refine lv_iload hx hb dL_cast_129 (lv_at hl 1 rfl) ?_
                    refine lv_iconst (v := (5 : Int32)) hx hb dL_cast_131 (by decide) ?_
                    refine xs_Vi (As := [.int (nI (pkw S R P k)), .int (5 : Int32)]) (rest := []) (wc := [(x, .inr (5, [.ref tx, .ref ho, .ref ca, .ref tr, .ref hi, .ref sl, .ref sv]))] ++ hw K ho hoa S ++ cw K ca caa u9_109) (wr := (List.filterMap (fun i => ([(x, .inr (5, [.ref tx, .ref ho, .ref ca, .ref tr, .ref hi, .ref sl, .ref sv]))] ++ hw K ho hoa S ++ cw K ca caa u9_109 : va_W)[i]?) ([] : List Nat))) ⟨hx, hb, hml, hown, hts⟩ (c_X5_player_5 l K x tx ho ca tr hi sl sv (pkw S R P k) hoa S caa u9_109 R hR0 (by omega) P hP0 (by omega) (by first | assumption | omega) (by first | assumption | omega) H.size) (cwV 2 hts gL_cast_X5_player rfl rfl rfl (by decide +kernel) ⟨Nat.le_of_ble_eq_true rfl, Nat.le_of_ble_eq_true rfl⟩) hK hP hD hS hZ hA [0, 1, 2, 3, 4, 5, 6, 7, 8, 9, 10, 11, 12, 13, 14, 15] [] [0, 1, 2, 3, 4, 5, 6, 7, 8, 9, 10, 11, 12, 13, 14, 15] rfl rfl rfl (fun u9_132 => [(x, .inr (5, [.ref tx, .ref ho, .ref ca, .ref tr, .ref hi, .ref sl, .ref sv]))] ++ hw K ho hoa S ++ cw K ca caa u9_132) (fun _ => rfl) 0 5 rfl rfl rfl rfl hl.1 rfl (Nat.le_of_ble_eq_true rfl) (by show ((((4 + 24 * k) + 4) + 4) + 4) + 4 ≤ 300; omega) (by show ((((24 + 144 * k) + 24) + 24) + 24) + 24 ≤ 1800; omega) dL_cast_132 (fun r132 u9_132 H locs hq132 hP hD hS => ?_)
                    have hP : va_P K.1 vwCl ([(x, .inr (5, [.ref tx, .ref ho, .ref ca, .ref tr, .ref hi, .ref sl, .ref sv]))] ++ hw K ho hoa S ++ cw K ca caa u9_132) H := hP
                    have hD : va_D A ([(x, .inr (5, [.ref tx, .ref ho, .ref ca, .ref tr, .ref hi, .ref sl, .ref sv]))] ++ hw K ho hoa S ++ cw K ca caa u9_132) := hD
                    subst hq132
                    rw [show fstF (fun r => decide (hCs S R P r = nI (pkw S R P k))) 0 R = nI k from cv_rl hP0b hd c_37]
                    refine lv_iload hx hb dL_cast_135 (lv_at hl 7 rfl) ?_
                    refine xn_icmp_ne (tgt := 154) hx hb k k rfl rfl (by omega) (by omega) dL_cast_137 (by decide) (fun c_137 => ?_) (fun c_137 => ?_)
                    · exact absurd rfl c_137
                    · skip
                      refine lv_aload_n hx hb dL_cast_140 rfl (lv_at hl 2 rfl) ?_
                      refine lv_iload hx hb dL_cast_141 (lv_at hl 7 rfl) ?_
                      refine lv_iconst (v := (4 : Int32)) hx hb dL_cast_143 (by decide) ?_
                      refine xs_Vi (As := [.int (nI k), .int (4 : Int32)]) (rest := []) (wc := [(x, .inr (5, [.ref tx, .ref ho, .ref ca, .ref tr, .ref hi, .ref sl, .ref sv]))] ++ hw K ho hoa S ++ cw K ca caa u9_132) (wr := (List.filterMap (fun i => ([(x, .inr (5, [.ref tx, .ref ho, .ref ca, .ref tr, .ref hi, .ref sl, .ref sv]))] ++ hw K ho hoa S ++ cw K ca caa u9_132 : va_W)[i]?) ([] : List Nat))) ⟨hx, hb, hml, hown, hts⟩ (c_X5_role_4 l K x tx ho ca tr hi sl sv k hoa S caa u9_132 R hR0 (by omega) P hP0 (by omega) (by first | assumption | omega) (by first | assumption | omega) H.size) (cwV 2 hts gL_cast_X5_role rfl rfl rfl (by decide +kernel) ⟨Nat.le_of_ble_eq_true rfl, Nat.le_of_ble_eq_true rfl⟩) hK hP hD hS hZ hA [0, 1, 2, 3, 4, 5, 6, 7, 8, 9, 10, 11, 12, 13, 14, 15] [] [0, 1, 2, 3, 4, 5, 6, 7, 8, 9, 10, 11, 12, 13, 14, 15] rfl rfl rfl (fun u9_144 => [(x, .inr (5, [.ref tx, .ref ho, .ref ca, .ref tr, .ref hi, .ref sl, .ref sv]))] ++ hw K ho hoa S ++ cw K ca caa u9_144) (fun _ => rfl) 0 5 rfl rfl rfl rfl hl.1 rfl (Nat.le_of_ble_eq_true rfl) (by show (((((4 + 24 * k) + 4) + 4) + 4) + 4) + 4 ≤ 300; omega) (by show (((((24 + 144 * k) + 24) + 24) + 24) + 24) + 24 ≤ 1800; omega) dL_cast_144 (fun r144 u9_144 H locs hq144 hP hD hS => ?_)
                      have hP : va_P K.1 vwCl ([(x, .inr (5, [.ref tx, .ref ho, .ref ca, .ref tr, .ref hi, .ref sl, .ref sv]))] ++ hw K ho hoa S ++ cw K ca caa u9_144) H := hP
                      have hD : va_D A ([(x, .inr (5, [.ref tx, .ref ho, .ref ca, .ref tr, .ref hi, .ref sl, .ref sv]))] ++ hw K ho hoa S ++ cw K ca caa u9_144) := hD
                      subst hq144
                      refine lv_if_le (tgt := 154) hx hb dL_cast_147 (by decide) (fun c_147 => ?_) (fun c_147 => ?_)
                      · exact absurd (cv_cnt hC hP0b hd c_37) (Int32.not_lt.mpr c_147)
                      · skip
                        have c_147n := Int32.not_le.mp c_147
                        refine lv_iconst (v := (1 : Int32)) hx hb dL_cast_150 (by decide) ?_
                        refine lv_goto (tgt := 155) hx hb dL_cast_151 (by decide) ?_
                        refine lv_istore (lv' := [(5, .int (1 : Int32)), (7, .int (nI (pkw S R P k))), (0, .ref x), (1, .int (S 10 0)), (2, .int (hStr S R P)), (3, .int (smw S R P k)), (4, .int (nI (tkw S R P k))), (6, .int (nI k))]) hx hb dL_cast_155 hl (by decide) rfl (fun ls hl => ?_)
                        refine lv_iload hx hb dL_cast_157 (lv_at hl 6 rfl) ?_
                        refine lv_iconst (v := (1 : Int32)) hx hb dL_cast_159 (by decide) ?_
                        refine lv_iload hx hb dL_cast_160 (lv_at hl 1 rfl) ?_
                        refine lv_ishl hx hb dL_cast_162 ?_
                        refine lv_ior hx hb dL_cast_163 ?_
                        refine lv_istore (lv' := [(4, .int ((nI (tkw S R P k)) ||| ((1 : Int32) <<< ((nI (pkw S R P k)) &&& 31)))), (5, .int (1 : Int32)), (7, .int (nI (pkw S R P k))), (0, .ref x), (1, .int (S 10 0)), (2, .int (hStr S R P)), (3, .int (smw S R P k)), (6, .int (nI k))]) hx hb dL_cast_164 hl (by decide) rfl (fun ls hl => ?_)
                        refine lv_iload_n hx hb dL_cast_166 rfl (lv_at hl 6 rfl) ?_
                        refine lv_aload_n hx hb dL_cast_167 rfl (lv_at hl 3 rfl) ?_
                        refine lv_iload hx hb dL_cast_168 (lv_at hl 2 rfl) ?_
                        refine lv_iload hx hb dL_cast_170 (lv_at hl 7 rfl) ?_
                        refine lv_iconst (v := (2 : Int32)) hx hb dL_cast_172 (by decide) ?_
                        refine xs_Vi (As := [.int (nI (pkw S R P k)), .int (nI k), .int (2 : Int32)]) (rest := [.int (smw S R P k)]) (wc := [(x, .inr (5, [.ref tx, .ref ho, .ref ca, .ref tr, .ref hi, .ref sl, .ref sv]))] ++ hw K ho hoa S) (wr := (List.filterMap (fun i => ([(x, .inr (5, [.ref tx, .ref ho, .ref ca, .ref tr, .ref hi, .ref sl, .ref sv]))] ++ hw K ho hoa S ++ cw K ca caa u9_144 : va_W)[i]?) ([12, 13, 14, 15] : List Nat))) ⟨hx, hb, hml, hown, hts⟩ (c_X5_both_2 l K x tx ho ca tr hi sl sv (pkw S R P k) k hoa S R hR0 (by omega) P hP0 (by omega) (by first | assumption | omega) (by first | assumption | omega) (by first | assumption | omega) H.size) (cwV 3 hts gL_cast_X5_both rfl rfl rfl (by decide +kernel) ⟨Nat.le_of_ble_eq_true rfl, Nat.le_of_ble_eq_true rfl⟩) hK hP hD hS hZ hA [0, 1, 2, 3, 4, 5, 6, 7, 8, 9, 10, 11] [12, 13, 14, 15] [4, 5, 6, 7, 8, 9, 10, 11, 12, 13, 14, 15, 0, 1, 2, 3] rfl rfl rfl (fun _u => [(x, .inr (5, [.ref tx, .ref ho, .ref ca, .ref tr, .ref hi, .ref sl, .ref sv]))] ++ hw K ho hoa S ++ cw K ca caa u9_144) (fun _ => rfl) 0 5 rfl rfl rfl rfl hl.1 rfl (Nat.le_of_ble_eq_true rfl) (by show ((((((4 + 24 * k) + 4) + 4) + 4) + 4) + 4) + 4 ≤ 300; omega) (by show ((((((24 + 144 * k) + 24) + 24) + 24) + 24) + 24) + 24 ≤ 1800; omega) dL_cast_173 (fun r173 _ H locs hq173 hP hD hS => ?_)
                        have hP : va_P K.1 vwCl ([(x, .inr (5, [.ref tx, .ref ho, .ref ca, .ref tr, .ref hi, .ref sl, .ref sv]))] ++ hw K ho hoa S ++ cw K ca caa u9_144) H := hP
                        have hD : va_D A ([(x, .inr (5, [.ref tx, .ref ho, .ref ca, .ref tr, .ref hi, .ref sl, .ref sv]))] ++ hw K ho hoa S ++ cw K ca caa u9_144) := hD
                        subst hq173
                        refine lv_iadd hx hb dL_cast_176 ?_
                        refine lv_istore_n (lv' := [(3, .int ((smw S R P k) + (wOf S (pkw S R P k) k))), (4, .int ((nI (tkw S R P k)) ||| ((1 : Int32) <<< ((nI (pkw S R P k)) &&& 31)))), (5, .int (1 : Int32)), (7, .int (nI (pkw S R P k))), (0, .ref x), (1, .int (S 10 0)), (2, .int (hStr S R P)), (6, .int (nI k))]) hx hb dL_cast_177 rfl hl (by decide) rfl (fun ls hl => ?_)
                        refine lv_iinc (v := nI (k + 1)) (lv' := [(6, .int (nI (k + 1))), (3, .int ((smw S R P k) + (wOf S (pkw S R P k) k))), (4, .int ((nI (tkw S R P k)) ||| ((1 : Int32) <<< ((nI (pkw S R P k)) &&& 31)))), (5, .int (1 : Int32)), (7, .int (nI (pkw S R P k))), (0, .ref x), (1, .int (S 10 0)), (2, .int (hStr S R P))]) hx hb dL_cast_178 hl (k := 7) rfl (nI_1 _) (by decide) rfl (fun ls hl => ?_)
                        refine lv_goto (tgt := 34) hx hb dL_cast_181 (by decide) ?_
                        refine W.widen (k := (4 + 24 * (k + 1))) (n := (24 + 144 * (k + 1))) (by show (((((((4 + 24 * k) + 4) + 4) + 4) + 4) + 4) + 4) ≤ (4 + 24 * (k + 1)); omega) (by show (((((((24 + 144 * k) + 24) + 24) + 24) + 24) + 24) + 24) ≤ (24 + 144 * (k + 1)); omega) ?_
                        exact ih34 (k + 1) u9_144 _ _ _ (by omega) (by first | omega | assumption | first | rfl | (simp [c_37, c_57, c_67, c_102, c_113, c_125, c_125n, c_137, c_147, c_147n]; done) | omega) hP hD hS (lv_cons (lv_at hl 5 rfl) (lv_cons (lv_at hl 6 rfl) (lv_cons (lv_at hl 7 rfl) (lv_cons (lv_is (lv_at hl 1 rfl) (show (smw S R P k) + (wOf S (pkw S R P k) k) = smw S R P (k + 1) by rfl)) (lv_cons (lv_is (lv_at hl 2 rfl) (show (nI (tkw S R P k)) ||| ((1 : Int32) <<< ((nI (pkw S R P k)) &&& 31)) = nI (tkw S R P (k + 1)) by exact nn_or rfl (nn_shl1 (p := pkw S R P k) rfl rfl (by omega)))) (lv_cons (lv_at hl 3 rfl) (lv_cons (lv_at hl 0 rfl) (lv_nil hl))))))))
            · exact absurd c_67 hd
          · exact absurd c_57 (nI_m1 (show pkw S R P k < 2 ^ 31 by omega))
    refine W.widen (k := (4 + 24 * 0)) (n := (24 + 144 * 0)) (by show 4 ≤ (4 + 24 * 0); omega) (by show 24 ≤ (24 + 144 * 0); omega) ?_
    exact lp34 _ 0 u9_7 _ _ _ (Nat.lt_succ_self _) (by first | omega | assumption | first | rfl | (simp; done) | omega) hP hD hS (lv_cons (lv_at hl 2 rfl) (lv_cons (lv_at hl 3 rfl) (lv_cons (lv_at hl 4 rfl) (lv_cons (lv_is (lv_at hl 5 rfl) (show (0 : Int32) = smw S R P 0 by rfl)) (lv_cons (lv_is (lv_at hl 6 rfl) (show (0 : Int32) = nI (tkw S R P 0) by rfl)) (lv_cons (lv_at hl 1 rfl) (lv_cons (lv_is (lv_at hl 0 rfl) (show (0 : Int32) = nI 0 by first | rfl | (simp; done) | omega)) (lv_nil hl))))))))
  refine lv_iload_n hx hb dL_cast_16 rfl (lv_at hl 3 rfl) ?_
  refine xn_if_gt (tgt := 24) hx hb R hR0 (by omega) dL_cast_17 (by decide) (fun c_17 => ?_) (fun c_17 => ?_)
  · skip
    refine lv_iconst (v := (1 : Int32)) hx hb dL_cast_24 (by decide) ?_
    refine lv_goto (tgt := 29) hx hb dL_cast_25 (by decide) ?_
    exact jn29 _ _ _ hP hD hS (lv_cons (lv_at hl 4 rfl) (lv_cons (lv_at hl 3 rfl) (lv_cons (lv_at hl 2 rfl) (lv_cons (lv_at hl 1 rfl) (lv_cons (lv_at hl 0 rfl) (lv_nil hl))))))
  · skip
    refine lv_iload_n hx hb dL_cast_20 rfl (lv_at hl 2 rfl) ?_
    refine lv_if_ne (tgt := 28) hx hb dL_cast_21 (by decide) (fun c_21 => ?_) (fun c_21 => ?_)
    · exact absurd (cv_z (by omega)) c_21
    · skip
      refine lv_iconst (v := (1 : Int32)) hx hb dL_cast_24 (by decide) ?_
      refine lv_goto (tgt := 29) hx hb dL_cast_25 (by decide) ?_
      exact jn29 _ _ _ hP hD hS (lv_cons (lv_at hl 4 rfl) (lv_cons (lv_at hl 3 rfl) (lv_cons (lv_at hl 2 rfl) (lv_cons (lv_at hl 1 rfl) (lv_cons (lv_at hl 0 rfl) (lv_nil hl))))))

abbrev rm_L_cast_n : Room := { frames := 8, cells := 300, slots := 1800, locals := 134 }
set_option maxHeartbeats 4000000 in
set_option maxRecDepth 100000 in
theorem c_L_cast_n (l : Launch) (K : KX) (x : Nat) (tx : Nat) (ho : Nat) (ca : Nat) (tr : Nat) (hi : Nat) (sl : Nat) (sv : Nat) (hoa : Nat → Nat) (S : HV) (caa : Nat → Nat) (C : HV) (R : Nat) (hR0 : S 10 0 = nI R) (hR0b : R ≤ 6) (P : Nat) (hP0 : S 11 0 = nI P) (hP0b : P ≤ 10) (hls : l.stackTraces = false) (B : Nat) (hI : INV S R P B) (hd : hStr S R P = -1) (sz : Nat) : Met l yL_cast wsL_cast rm_L_cast_n (va_Pc [.ref x] (xPreS K ([(x, .inr (5, [.ref tx, .ref ho, .ref ca, .ref tr, .ref hi, .ref sl, .ref sv]))] ++ hw K ho hoa S ++ cw K ca caa C) sz)) (va_Qi (fun (r9 : Int32) (u9 : HV) => r9 = 1) (fun u9 t => xPost K (va_A ([(x, .inr (5, [.ref tx, .ref ho, .ref ca, .ref tr, .ref hi, .ref sl, .ref sv]))] ++ hw K ho hoa S ++ cw K ca caa C) sz) ([(x, .inr (5, [.ref tx, .ref ho, .ref ca, .ref tr, .ref hi, .ref sl, .ref sv]))] ++ hw K ho hoa S ++ cw K ca caa u9) t) (va_A ([(x, .inr (5, [.ref tx, .ref ho, .ref ca, .ref tr, .ref hi, .ref sl, .ref sv]))] ++ hw K ho hoa S ++ cw K ca caa C) sz)) 300 1800 (va_A ([(x, .inr (5, [.ref tx, .ref ho, .ref ca, .ref tr, .ref hi, .ref sl, .ref sv]))] ++ hw K ho hoa S ++ cw K ca caa C) sz) := by
  refine xs_startz (cc := cL_cast) (maxL := 8) (ret := .boolean) (by decide) rfl (Nat.le_of_ble_eq_true rfl) ?_
  intro p9 e9 s9 m9 below9 meth9 c9 H locs ls A av9 Q9 hx hb hlocks hml hname hts hown hK hP hD hS hA hsz hZ hend hl
  have hown : s9.vm.findClass RL = some m9.cls := hown
  have hl : lv_has ls 8 [(0, .ref x)] := hl
  have hC := hI.2.1
  have hz := hI.1.2.2.2.2
  refine lv_aload_n hx hb dL_cast_0 rfl (lv_at hl 0 rfl) ?_
  refine lv_iconst (v := (0 : Int32)) hx hb dL_cast_1 (by decide) ?_
  refine xs_Vi (As := [.int (0 : Int32)]) (rest := []) (wc := [(x, .inr (5, [.ref tx, .ref ho, .ref ca, .ref tr, .ref hi, .ref sl, .ref sv]))] ++ hw K ho hoa S) (wr := (List.filterMap (fun i => ([(x, .inr (5, [.ref tx, .ref ho, .ref ca, .ref tr, .ref hi, .ref sl, .ref sv]))] ++ hw K ho hoa S ++ cw K ca caa C : va_W)[i]?) ([12, 13, 14, 15] : List Nat))) ⟨hx, hb, hml, hown, hts⟩ (c_X5_about_0 l K x tx ho ca tr hi sl sv hoa S P hP0 (by omega) (by first | assumption | omega) (by first | assumption | omega) H.size) (cwV 1 hts gL_cast_X5_about rfl rfl rfl (by decide +kernel) ⟨Nat.le_of_ble_eq_true rfl, Nat.le_of_ble_eq_true rfl⟩) hK hP hD hS hZ hA [0, 1, 2, 3, 4, 5, 6, 7, 8, 9, 10, 11] [12, 13, 14, 15] [4, 5, 6, 7, 8, 9, 10, 11, 12, 13, 14, 15, 0, 1, 2, 3] rfl rfl rfl (fun _u => [(x, .inr (5, [.ref tx, .ref ho, .ref ca, .ref tr, .ref hi, .ref sl, .ref sv]))] ++ hw K ho hoa S ++ cw K ca caa C) (fun _ => rfl) 0 5 rfl rfl rfl rfl hl.1 rfl (Nat.le_of_ble_eq_true rfl) (Nat.le_of_ble_eq_true rfl) (Nat.le_of_ble_eq_true rfl) dL_cast_2 (fun r2 _ H locs hq2 hP hD hS => ?_)
  have hP : va_P K.1 vwCl ([(x, .inr (5, [.ref tx, .ref ho, .ref ca, .ref tr, .ref hi, .ref sl, .ref sv]))] ++ hw K ho hoa S ++ cw K ca caa C) H := hP
  have hD : va_D A ([(x, .inr (5, [.ref tx, .ref ho, .ref ca, .ref tr, .ref hi, .ref sl, .ref sv]))] ++ hw K ho hoa S ++ cw K ca caa C) := hD
  subst hq2
  refine lv_istore_n (lv' := [(1, .int (S 10 0)), (0, .ref x)]) hx hb dL_cast_5 rfl hl (by decide) rfl (fun ls hl => ?_)
  refine lv_aload_n hx hb dL_cast_6 rfl (lv_at hl 1 rfl) ?_
  refine xw_Vi (As := []) (rest := []) (wc := [(x, .inr (5, [.ref tx, .ref ho, .ref ca, .ref tr, .ref hi, .ref sl, .ref sv]))] ++ hw K ho hoa S ++ cw K ca caa C) (wr := (List.filterMap (fun i => ([(x, .inr (5, [.ref tx, .ref ho, .ref ca, .ref tr, .ref hi, .ref sl, .ref sv]))] ++ hw K ho hoa S ++ cw K ca caa C : va_W)[i]?) ([] : List Nat))) ⟨hx, hb, hml, hown, hts⟩ (c_X5_strength l K x tx ho ca tr hi sl sv hoa S caa C R hR0 (by omega) P hP0 (by omega) H.size) (cwV 0 hts gL_cast_X5_strength rfl rfl rfl (by decide +kernel) ⟨Nat.le_of_ble_eq_true rfl, Nat.le_of_ble_eq_true rfl⟩) hK hP hD hS hA [0, 1, 2, 3, 4, 5, 6, 7, 8, 9, 10, 11, 12, 13, 14, 15] [] [0, 1, 2, 3, 4, 5, 6, 7, 8, 9, 10, 11, 12, 13, 14, 15] rfl rfl rfl (fun u9_7 => [(x, .inr (5, [.ref tx, .ref ho, .ref ca, .ref tr, .ref hi, .ref sl, .ref sv]))] ++ hw K ho hoa S ++ cw K ca caa u9_7) (fun _ => rfl) 0 5 rfl rfl rfl rfl hl.1 rfl (Nat.le_of_ble_eq_true rfl) (Nat.le_of_ble_eq_true rfl) (Nat.le_of_ble_eq_true rfl) dL_cast_7 (fun r7 u9_7 H locs hq7 hP hD hS => ?_)
  have hP : va_P K.1 vwCl ([(x, .inr (5, [.ref tx, .ref ho, .ref ca, .ref tr, .ref hi, .ref sl, .ref sv]))] ++ hw K ho hoa S ++ cw K ca caa u9_7) H := hP
  have hD : va_D A ([(x, .inr (5, [.ref tx, .ref ho, .ref ca, .ref tr, .ref hi, .ref sl, .ref sv]))] ++ hw K ho hoa S ++ cw K ca caa u9_7) := hD
  subst hq7
  rw [show hStr S R P = (-1 : Int32) from hd]
  refine lv_istore_n (lv' := [(2, .int (-1 : Int32)), (1, .int (S 10 0)), (0, .ref x)]) hx hb dL_cast_10 rfl hl (by decide) rfl (fun ls hl => ?_)
  refine lv_iconst (v := (0 : Int32)) hx hb dL_cast_11 (by decide) ?_
  refine lv_istore_n (lv' := [(3, .int (0 : Int32)), (2, .int (-1 : Int32)), (1, .int (S 10 0)), (0, .ref x)]) hx hb dL_cast_12 rfl hl (by decide) rfl (fun ls hl => ?_)
  refine lv_iconst (v := (0 : Int32)) hx hb dL_cast_13 (by decide) ?_
  refine lv_istore (lv' := [(4, .int (0 : Int32)), (3, .int (0 : Int32)), (2, .int (-1 : Int32)), (1, .int (S 10 0)), (0, .ref x)]) hx hb dL_cast_14 hl (by decide) rfl (fun ls hl => ?_)
  refine lv_iload_n hx hb dL_cast_16 rfl (lv_at hl 3 rfl) ?_
  refine xn_if_gt (tgt := 24) hx hb R hR0 (by omega) dL_cast_17 (by decide) (fun c_17 => ?_) (fun c_17 => ?_)
  · skip
    refine lv_iconst (v := (1 : Int32)) hx hb dL_cast_24 (by decide) ?_
    refine lv_goto (tgt := 29) hx hb dL_cast_25 (by decide) ?_
    refine lv_istore (lv' := [(5, .int (1 : Int32)), (4, .int (0 : Int32)), (3, .int (0 : Int32)), (2, .int (-1 : Int32)), (1, .int (S 10 0)), (0, .ref x)]) hx hb dL_cast_29 hl (by decide) rfl (fun ls hl => ?_)
    refine lv_iconst (v := (0 : Int32)) hx hb dL_cast_31 (by decide) ?_
    refine lv_istore (lv' := [(6, .int (0 : Int32)), (5, .int (1 : Int32)), (4, .int (0 : Int32)), (3, .int (0 : Int32)), (2, .int (-1 : Int32)), (1, .int (S 10 0)), (0, .ref x)]) hx hb dL_cast_32 hl (by decide) rfl (fun ls hl => ?_)
    have lp34 : ∀ (n9 : Nat) (k : Nat) (E : HV) (H : Heap) (locs : List Loc) (ls : Array Slot), R - k < n9 → (k ≤ R) → va_P K.1 vwCl ([(x, .inr (5, [.ref tx, .ref ho, .ref ca, .ref tr, .ref hi, .ref sl, .ref sv]))] ++ hw K ho hoa S ++ cw K ca caa E) H → va_D A ([(x, .inr (5, [.ref tx, .ref ho, .ref ca, .ref tr, .ref hi, .ref sl, .ref sv]))] ++ hw K ho hoa S ++ cw K ca caa E) → va_S A s9.heap H locs → lv_has ls 8 [(0, .ref x), (1, .int (S 10 0)), (2, .int (-1 : Int32)), (3, .int (0 : Int32)), (4, .int (0 : Int32)), (5, .int (1 : Int32)), (6, .int (nI k))] → W p9 l e9 rm_L_cast_n s9 m9 av9 below9 meth9 c9 H locs (4 + 24 * k) (24 + 144 * k) Q9 (F0 m9 34 ls []) := by
      intro n9
      induction n9 with
      | zero => intro k E H locs ls hmu hk hP hD hS hl; exact absurd hmu (Nat.not_lt_zero _)
      | succ n9 ih34 =>
        intro k E H locs ls hmu hk hP hD hS hl
        refine lv_iload hx hb dL_cast_34 (lv_at hl 6 rfl) ?_
        refine lv_iload_n hx hb dL_cast_36 rfl (lv_at hl 1 rfl) ?_
        refine xn_icmp_ge (tgt := 184) hx hb k R rfl hR0 (by omega) (by omega) dL_cast_37 (by decide) (fun c_37 => ?_) (fun c_37 => ?_)
        · skip
          refine W.widen (k := 148) (n := 888) (by show (4 + 24 * k) ≤ 148; omega) (by show (24 + 144 * k) ≤ 888; omega) ?_
          refine lv_iload hx hb dL_cast_184 (lv_at hl 5 rfl) ?_
          refine lv_if_eq (tgt := 203) hx hb dL_cast_186 (by decide) (fun c_186 => ?_) (fun c_186 => ?_)
          · exact absurd c_186 (by decide)
          refine lv_iload_n hx hb dL_cast_189 rfl (lv_at hl 2 rfl) ?_
          refine lv_iconst (v := (-1 : Int32)) hx hb dL_cast_190 (by decide) ?_
          refine lv_icmp_eq (tgt := 199) hx hb dL_cast_191 (by decide) (fun c_191 => ?_) (fun c_191 => ?_)
          rotate_left
          · exact absurd (by decide) c_191
          refine lv_iconst (v := (1 : Int32)) hx hb dL_cast_199 (by decide) ?_
          refine lv_goto (tgt := 204) hx hb dL_cast_200 (by decide) ?_
          refine lv_istore (lv' := [(5, .int (1 : Int32)), (0, .ref x), (1, .int (S 10 0)), (2, .int (-1 : Int32)), (3, .int (0 : Int32)), (4, .int (0 : Int32)), (6, .int (nI k))]) hx hb dL_cast_204 hl (by decide) rfl (fun ls hl => ?_)
          refine lv_iconst (v := (0 : Int32)) hx hb dL_cast_206 (by decide) ?_
          refine lv_istore (lv' := [(6, .int (0 : Int32)), (5, .int (1 : Int32)), (0, .ref x), (1, .int (S 10 0)), (2, .int (-1 : Int32)), (3, .int (0 : Int32)), (4, .int (0 : Int32))]) hx hb dL_cast_207 hl (by decide) rfl (fun ls hl => ?_)
          have lp209 : ∀ (n9 : Nat) (j : Nat) (E : HV) (H : Heap) (locs : List Loc) (ls : Array Slot), P - j < n9 → (j ≤ P) → va_P K.1 vwCl ([(x, .inr (5, [.ref tx, .ref ho, .ref ca, .ref tr, .ref hi, .ref sl, .ref sv]))] ++ hw K ho hoa S ++ cw K ca caa E) H → va_D A ([(x, .inr (5, [.ref tx, .ref ho, .ref ca, .ref tr, .ref hi, .ref sl, .ref sv]))] ++ hw K ho hoa S ++ cw K ca caa E) → va_S A s9.heap H locs → lv_has ls 8 [(0, .ref x), (1, .int (S 10 0)), (2, .int (-1 : Int32)), (3, .int (0 : Int32)), (4, .int (0 : Int32)), (5, .int (1 : Int32)), (6, .int (nI j))] → W p9 l e9 rm_L_cast_n s9 m9 av9 below9 meth9 c9 H locs (148 + 12 * j) (888 + 72 * j) Q9 (F0 m9 209 ls []) := by
            intro n9
            induction n9 with
            | zero => intro j E H locs ls hmu hj hP hD hS hl; exact absurd hmu (Nat.not_lt_zero _)
            | succ n9 ih209 =>
              intro j E H locs ls hmu hj hP hD hS hl
              refine lv_iload hx hb dL_cast_209 (lv_at hl 6 rfl) ?_
              refine lv_aload_n hx hb dL_cast_211 rfl (lv_at hl 0 rfl) ?_
              refine lv_iconst (v := (1 : Int32)) hx hb dL_cast_212 (by decide) ?_
              refine xs_Vi (As := [.int (1 : Int32)]) (rest := [.int (nI j)]) (wc := [(x, .inr (5, [.ref tx, .ref ho, .ref ca, .ref tr, .ref hi, .ref sl, .ref sv]))] ++ hw K ho hoa S) (wr := (List.filterMap (fun i => ([(x, .inr (5, [.ref tx, .ref ho, .ref ca, .ref tr, .ref hi, .ref sl, .ref sv]))] ++ hw K ho hoa S ++ cw K ca caa E : va_W)[i]?) ([12, 13, 14, 15] : List Nat))) ⟨hx, hb, hml, hown, hts⟩ (c_X5_about_1 l K x tx ho ca tr hi sl sv hoa S P hP0 (by omega) (by first | assumption | omega) (by first | assumption | omega) H.size) (cwV 1 hts gL_cast_X5_about rfl rfl rfl (by decide +kernel) ⟨Nat.le_of_ble_eq_true rfl, Nat.le_of_ble_eq_true rfl⟩) hK hP hD hS hZ hA [0, 1, 2, 3, 4, 5, 6, 7, 8, 9, 10, 11] [12, 13, 14, 15] [4, 5, 6, 7, 8, 9, 10, 11, 12, 13, 14, 15, 0, 1, 2, 3] rfl rfl rfl (fun _u => [(x, .inr (5, [.ref tx, .ref ho, .ref ca, .ref tr, .ref hi, .ref sl, .ref sv]))] ++ hw K ho hoa S ++ cw K ca caa E) (fun _ => rfl) 0 5 rfl rfl rfl rfl hl.1 rfl (Nat.le_of_ble_eq_true rfl) (by show (148 + 12 * j) + 4 ≤ 300; omega) (by show (888 + 72 * j) + 24 ≤ 1800; omega) dL_cast_213 (fun r213 _ H locs hq213 hP hD hS => ?_)
              have hP : va_P K.1 vwCl ([(x, .inr (5, [.ref tx, .ref ho, .ref ca, .ref tr, .ref hi, .ref sl, .ref sv]))] ++ hw K ho hoa S ++ cw K ca caa E) H := hP
              have hD : va_D A ([(x, .inr (5, [.ref tx, .ref ho, .ref ca, .ref tr, .ref hi, .ref sl, .ref sv]))] ++ hw K ho hoa S ++ cw K ca caa E) := hD
              subst hq213
              refine xn_icmp_ge (tgt := 302) hx hb j P rfl hP0 (by omega) (by omega) dL_cast_216 (by decide) (fun c_216 => ?_) (fun c_216 => ?_)
              · skip
                refine W.widen (k := 272) (n := 1632) (by show ((148 + 12 * j) + 4) ≤ 272; omega) (by show ((888 + 72 * j) + 24) ≤ 1632; omega) ?_
                refine lv_iload hx hb dL_cast_302 (lv_at hl 5 rfl) ?_
                exact hend _ _ _ _ _ _ _ (by decide) E hP hD hS (Nat.le_of_ble_eq_true rfl) (Nat.le_of_ble_eq_true rfl) (by first | rfl | (simp [c_17, c_37, c_216]; done) | omega) dL_cast_304
              · skip
                refine lv_iload hx hb dL_cast_219 (lv_at hl 5 rfl) ?_
                refine lv_if_eq (tgt := 302) hx hb dL_cast_221 (by decide) (fun c_221 => ?_) (fun c_221 => ?_)
                · exact absurd c_221 (by decide)
                refine lv_aload_n hx hb dL_cast_224 rfl (lv_at hl 0 rfl) ?_
                refine lv_iload hx hb dL_cast_225 (lv_at hl 6 rfl) ?_
                refine xs_Vi (As := [.int (nI j)]) (rest := []) (wc := [(x, .inr (5, [.ref tx, .ref ho, .ref ca, .ref tr, .ref hi, .ref sl, .ref sv]))] ++ hw K ho hoa S ++ cw K ca caa E) (wr := (List.filterMap (fun i => ([(x, .inr (5, [.ref tx, .ref ho, .ref ca, .ref tr, .ref hi, .ref sl, .ref sv]))] ++ hw K ho hoa S ++ cw K ca caa E : va_W)[i]?) ([] : List Nat))) ⟨hx, hb, hml, hown, hts⟩ (c_X5_without_n l K x tx ho ca tr hi sl sv j hoa S caa E R hR0 (by omega) P hP0 (by omega) (by first | assumption | omega) (by first | assumption | omega) H.size) (cwV 1 hts gL_cast_X5_without rfl rfl rfl (by decide +kernel) ⟨Nat.le_of_ble_eq_true rfl, Nat.le_of_ble_eq_true rfl⟩) hK hP hD hS hZ hA [0, 1, 2, 3, 4, 5, 6, 7, 8, 9, 10, 11, 12, 13, 14, 15] [] [0, 1, 2, 3, 4, 5, 6, 7, 8, 9, 10, 11, 12, 13, 14, 15] rfl rfl rfl (fun u9_227 => [(x, .inr (5, [.ref tx, .ref ho, .ref ca, .ref tr, .ref hi, .ref sl, .ref sv]))] ++ hw K ho hoa S ++ cw K ca caa u9_227) (fun _ => rfl) 0 5 rfl rfl rfl rfl hl.1 rfl (Nat.le_of_ble_eq_true rfl) (by show ((148 + 12 * j) + 4) + 4 ≤ 300; omega) (by show ((888 + 72 * j) + 24) + 24 ≤ 1800; omega) dL_cast_227 (fun r227 u9_227 H locs hq227 hP hD hS => ?_)
                have hP : va_P K.1 vwCl ([(x, .inr (5, [.ref tx, .ref ho, .ref ca, .ref tr, .ref hi, .ref sl, .ref sv]))] ++ hw K ho hoa S ++ cw K ca caa u9_227) H := hP
                have hD : va_D A ([(x, .inr (5, [.ref tx, .ref ho, .ref ca, .ref tr, .ref hi, .ref sl, .ref sv]))] ++ hw K ho hoa S ++ cw K ca caa u9_227) := hD
                subst hq227
                rw [show dpS (wFr S (frB S j P)) R P R 0 = (-1 : Int32) from cv_eqn hP0b hR0b hC hd j]
                refine lv_istore (lv' := [(7, .int (-1 : Int32)), (0, .ref x), (1, .int (S 10 0)), (2, .int (-1 : Int32)), (3, .int (0 : Int32)), (4, .int (0 : Int32)), (5, .int (1 : Int32)), (6, .int (nI j))]) hx hb dL_cast_230 hl (by decide) rfl (fun ls hl => ?_)
                refine lv_iload hx hb dL_cast_232 (lv_at hl 0 rfl) ?_
                refine lv_iload_n hx hb dL_cast_234 rfl (lv_at hl 3 rfl) ?_
                refine lv_icmp_gt (tgt := 293) hx hb dL_cast_235 (by decide) (fun c_235 => ?_) (fun c_235 => ?_)
                · exact absurd c_235 (by decide)
                refine lv_iload hx hb dL_cast_238 (lv_at hl 5 rfl) ?_
                refine lv_iload hx hb dL_cast_240 (lv_at hl 7 rfl) ?_
                refine lv_ishr hx hb dL_cast_242 ?_
                refine lv_iconst (v := (1 : Int32)) hx hb dL_cast_243 (by decide) ?_
                refine lv_iand hx hb dL_cast_244 ?_
                refine lv_iconst (v := (1 : Int32)) hx hb dL_cast_245 (by decide) ?_
                have hand2 : 0 / 2 ^ j &&& 1 ≤ 1 := Nat.and_le_right
                refine xn_icmp_eq (tgt := 255) hx hb ((0 / 2 ^ j) &&& 1) 1 (nn_and (nn_shr rfl rfl (by omega) (by omega)) rfl) rfl (by omega) (by decide) dL_cast_246 (by decide) (fun c_246 => ?_) (fun c_246 => ?_)
                · exact absurd c_246 (by simp)
                · skip
                  refine lv_iload hx hb dL_cast_249 (lv_at hl 0 rfl) ?_
                  refine lv_iload_n hx hb dL_cast_251 rfl (lv_at hl 3 rfl) ?_
                  refine lv_icmp_ne (tgt := 293) hx hb dL_cast_252 (by decide) (fun c_252 => ?_) (fun c_252 => ?_)
                  · exact absurd c_252 (by decide)
                  refine lv_aload_n hx hb dL_cast_255 rfl (lv_at hl 1 rfl) ?_
                  refine lv_iload hx hb dL_cast_256 (lv_at hl 7 rfl) ?_
                  refine lv_iconst (v := (5 : Int32)) hx hb dL_cast_258 (by decide) ?_
                  refine xs_Vi (As := [.int (nI j), .int (5 : Int32)]) (rest := []) (wc := [(x, .inr (5, [.ref tx, .ref ho, .ref ca, .ref tr, .ref hi, .ref sl, .ref sv]))] ++ hw K ho hoa S ++ cw K ca caa u9_227) (wr := (List.filterMap (fun i => ([(x, .inr (5, [.ref tx, .ref ho, .ref ca, .ref tr, .ref hi, .ref sl, .ref sv]))] ++ hw K ho hoa S ++ cw K ca caa u9_227 : va_W)[i]?) ([] : List Nat))) ⟨hx, hb, hml, hown, hts⟩ (c_X5_player_5 l K x tx ho ca tr hi sl sv j hoa S caa u9_227 R hR0 (by omega) P hP0 (by omega) (by first | assumption | omega) (by first | assumption | omega) H.size) (cwV 2 hts gL_cast_X5_player rfl rfl rfl (by decide +kernel) ⟨Nat.le_of_ble_eq_true rfl, Nat.le_of_ble_eq_true rfl⟩) hK hP hD hS hZ hA [0, 1, 2, 3, 4, 5, 6, 7, 8, 9, 10, 11, 12, 13, 14, 15] [] [0, 1, 2, 3, 4, 5, 6, 7, 8, 9, 10, 11, 12, 13, 14, 15] rfl rfl rfl (fun u9_259 => [(x, .inr (5, [.ref tx, .ref ho, .ref ca, .ref tr, .ref hi, .ref sl, .ref sv]))] ++ hw K ho hoa S ++ cw K ca caa u9_259) (fun _ => rfl) 0 5 rfl rfl rfl rfl hl.1 rfl (Nat.le_of_ble_eq_true rfl) (by show (((148 + 12 * j) + 4) + 4) + 4 ≤ 300; omega) (by show (((888 + 72 * j) + 24) + 24) + 24 ≤ 1800; omega) dL_cast_259 (fun r259 u9_259 H locs hq259 hP hD hS => ?_)
                  have hP : va_P K.1 vwCl ([(x, .inr (5, [.ref tx, .ref ho, .ref ca, .ref tr, .ref hi, .ref sl, .ref sv]))] ++ hw K ho hoa S ++ cw K ca caa u9_259) H := hP
                  have hD : va_D A ([(x, .inr (5, [.ref tx, .ref ho, .ref ca, .ref tr, .ref hi, .ref sl, .ref sv]))] ++ hw K ho hoa S ++ cw K ca caa u9_259) := hD
                  subst hq259
                  rw [show fstF (fun r => decide (hCs S R P r = nI j)) 0 R = (-1 : Int32) from cv_none hd (show j < 2 ^ 31 by omega)]
                  refine lv_if_lt (tgt := 269) hx hb dL_cast_262 (by decide) (fun c_262 => ?_) (fun c_262 => ?_)
                  rotate_left
                  · exact absurd (by decide) c_262
                  refine lv_iconst (v := (0 : Int32)) hx hb dL_cast_269 (by decide) ?_
                  refine lv_iload hx hb dL_cast_270 (lv_at hl 5 rfl) ?_
                  refine lv_iload hx hb dL_cast_272 (lv_at hl 7 rfl) ?_
                  refine lv_ishr hx hb dL_cast_274 ?_
                  refine lv_iconst (v := (1 : Int32)) hx hb dL_cast_275 (by decide) ?_
                  refine lv_iand hx hb dL_cast_276 ?_
                  refine lv_iconst (v := (1 : Int32)) hx hb dL_cast_277 (by decide) ?_
                  refine xn_icmp_ne (tgt := 285) hx hb ((0 / 2 ^ j) &&& 1) 1 (nn_and (nn_shr rfl rfl (by omega) (by omega)) rfl) rfl (by omega) (by decide) dL_cast_278 (by decide) (fun c_278 => ?_) (fun c_278 => ?_)
                  · skip
                    refine lv_iconst (v := (0 : Int32)) hx hb dL_cast_285 (by decide) ?_
                    refine lv_icmp_ne (tgt := 293) hx hb dL_cast_286 (by decide) (fun c_286 => ?_) (fun c_286 => ?_)
                    · exact absurd c_286 (by decide)
                    refine lv_iconst (v := (1 : Int32)) hx hb dL_cast_289 (by decide) ?_
                    refine lv_goto (tgt := 294) hx hb dL_cast_290 (by decide) ?_
                    refine lv_istore (lv' := [(5, .int (1 : Int32)), (7, .int (-1 : Int32)), (0, .ref x), (1, .int (S 10 0)), (2, .int (-1 : Int32)), (3, .int (0 : Int32)), (4, .int (0 : Int32)), (6, .int (nI j))]) hx hb dL_cast_294 hl (by decide) rfl (fun ls hl => ?_)
                    refine lv_iinc (v := nI (j + 1)) (lv' := [(6, .int (nI (j + 1))), (5, .int (1 : Int32)), (7, .int (-1 : Int32)), (0, .ref x), (1, .int (S 10 0)), (2, .int (-1 : Int32)), (3, .int (0 : Int32)), (4, .int (0 : Int32))]) hx hb dL_cast_296 hl (k := 7) rfl (nI_1 _) (by decide) rfl (fun ls hl => ?_)
                    refine lv_goto (tgt := 209) hx hb dL_cast_299 (by decide) ?_
                    refine W.widen (k := (148 + 12 * (j + 1))) (n := (888 + 72 * (j + 1))) (by show ((((148 + 12 * j) + 4) + 4) + 4) ≤ (148 + 12 * (j + 1)); omega) (by show ((((888 + 72 * j) + 24) + 24) + 24) ≤ (888 + 72 * (j + 1)); omega) ?_
                    exact ih209 (j + 1) u9_259 _ _ _ (by omega) (by first | omega | assumption | first | rfl | (simp [c_17, c_37, c_216, c_246, c_278]; done) | omega) hP hD hS (lv_cons (lv_at hl 3 rfl) (lv_cons (lv_at hl 4 rfl) (lv_cons (lv_at hl 5 rfl) (lv_cons (lv_at hl 6 rfl) (lv_cons (lv_at hl 7 rfl) (lv_cons (lv_at hl 1 rfl) (lv_cons (lv_at hl 0 rfl) (lv_nil hl))))))))
                  · exact absurd c_278 (by simp)
          refine W.widen (k := (148 + 12 * 0)) (n := (888 + 72 * 0)) (by show 148 ≤ (148 + 12 * 0); omega) (by show 888 ≤ (888 + 72 * 0); omega) ?_
          exact lp209 _ 0 E _ _ _ (Nat.lt_succ_self _) (by first | omega | assumption | first | rfl | (simp [c_17, c_37]; done) | omega) hP hD hS (lv_cons (lv_at hl 2 rfl) (lv_cons (lv_at hl 3 rfl) (lv_cons (lv_at hl 4 rfl) (lv_cons (lv_at hl 5 rfl) (lv_cons (lv_at hl 6 rfl) (lv_cons (lv_at hl 1 rfl) (lv_cons (lv_is (lv_at hl 0 rfl) (show (0 : Int32) = nI 0 by first | rfl | (simp [c_17, c_37]; done) | omega)) (lv_nil hl))))))))
        · skip
          refine lv_iload hx hb dL_cast_40 (lv_at hl 5 rfl) ?_
          refine lv_if_eq (tgt := 184) hx hb dL_cast_42 (by decide) (fun c_42 => ?_) (fun c_42 => ?_)
          · exact absurd c_42 (by decide)
          refine lv_aload_n hx hb dL_cast_45 rfl (lv_at hl 0 rfl) ?_
          refine lv_iload hx hb dL_cast_46 (lv_at hl 6 rfl) ?_
          refine lv_iconst (v := (2 : Int32)) hx hb dL_cast_48 (by decide) ?_
          refine xs_Vi (As := [.int (nI k), .int (2 : Int32)]) (rest := []) (wc := [(x, .inr (5, [.ref tx, .ref ho, .ref ca, .ref tr, .ref hi, .ref sl, .ref sv]))] ++ hw K ho hoa S ++ cw K ca caa E) (wr := (List.filterMap (fun i => ([(x, .inr (5, [.ref tx, .ref ho, .ref ca, .ref tr, .ref hi, .ref sl, .ref sv]))] ++ hw K ho hoa S ++ cw K ca caa E : va_W)[i]?) ([] : List Nat))) ⟨hx, hb, hml, hown, hts⟩ (c_X5_role_2 l K x tx ho ca tr hi sl sv k hoa S caa E R hR0 (by omega) P hP0 (by omega) (by first | assumption | omega) (by first | assumption | omega) H.size) (cwV 2 hts gL_cast_X5_role rfl rfl rfl (by decide +kernel) ⟨Nat.le_of_ble_eq_true rfl, Nat.le_of_ble_eq_true rfl⟩) hK hP hD hS hZ hA [0, 1, 2, 3, 4, 5, 6, 7, 8, 9, 10, 11, 12, 13, 14, 15] [] [0, 1, 2, 3, 4, 5, 6, 7, 8, 9, 10, 11, 12, 13, 14, 15] rfl rfl rfl (fun u9_49 => [(x, .inr (5, [.ref tx, .ref ho, .ref ca, .ref tr, .ref hi, .ref sl, .ref sv]))] ++ hw K ho hoa S ++ cw K ca caa u9_49) (fun _ => rfl) 0 5 rfl rfl rfl rfl hl.1 rfl (Nat.le_of_ble_eq_true rfl) (by show (4 + 24 * k) + 4 ≤ 300; omega) (by show (24 + 144 * k) + 24 ≤ 1800; omega) dL_cast_49 (fun r49 u9_49 H locs hq49 hP hD hS => ?_)
          have hP : va_P K.1 vwCl ([(x, .inr (5, [.ref tx, .ref ho, .ref ca, .ref tr, .ref hi, .ref sl, .ref sv]))] ++ hw K ho hoa S ++ cw K ca caa u9_49) H := hP
          have hD : va_D A ([(x, .inr (5, [.ref tx, .ref ho, .ref ca, .ref tr, .ref hi, .ref sl, .ref sv]))] ++ hw K ho hoa S ++ cw K ca caa u9_49) := hD
          subst hq49
          rw [show hCs S R P k = (-1 : Int32) from cv_nc hd k]
          refine lv_istore (lv' := [(7, .int (-1 : Int32)), (0, .ref x), (1, .int (S 10 0)), (2, .int (-1 : Int32)), (3, .int (0 : Int32)), (4, .int (0 : Int32)), (5, .int (1 : Int32)), (6, .int (nI k))]) hx hb dL_cast_52 hl (by decide) rfl (fun ls hl => ?_)
          refine lv_iload hx hb dL_cast_54 (lv_at hl 0 rfl) ?_
          refine lv_iconst (v := (-1 : Int32)) hx hb dL_cast_56 (by decide) ?_
          refine lv_icmp_ne (tgt := 64) hx hb dL_cast_57 (by decide) (fun c_57 => ?_) (fun c_57 => ?_)
          · exact absurd c_57 (by decide)
          refine lv_iconst (v := (1 : Int32)) hx hb dL_cast_60 (by decide) ?_
          refine lv_goto (tgt := 65) hx hb dL_cast_61 (by decide) ?_
          refine lv_iload_n hx hb dL_cast_65 rfl (lv_at hl 3 rfl) ?_
          refine lv_iconst (v := (-1 : Int32)) hx hb dL_cast_66 (by decide) ?_
          refine lv_icmp_ne (tgt := 74) hx hb dL_cast_67 (by decide) (fun c_67 => ?_) (fun c_67 => ?_)
          · exact absurd c_67 (by decide)
          refine lv_iconst (v := (1 : Int32)) hx hb dL_cast_70 (by decide) ?_
          refine lv_goto (tgt := 75) hx hb dL_cast_71 (by decide) ?_
          refine lv_icmp_ne (tgt := 82) hx hb dL_cast_75 (by decide) (fun c_75 => ?_) (fun c_75 => ?_)
          · exact absurd c_75 (by decide)
          refine lv_iconst (v := (1 : Int32)) hx hb dL_cast_78 (by decide) ?_
          refine lv_goto (tgt := 83) hx hb dL_cast_79 (by decide) ?_
          refine lv_istore (lv' := [(5, .int (1 : Int32)), (7, .int (-1 : Int32)), (0, .ref x), (1, .int (S 10 0)), (2, .int (-1 : Int32)), (3, .int (0 : Int32)), (4, .int (0 : Int32)), (6, .int (nI k))]) hx hb dL_cast_83 hl (by decide) rfl (fun ls hl => ?_)
          refine lv_iload hx hb dL_cast_85 (lv_at hl 0 rfl) ?_
          refine lv_if_eq (tgt := 178) hx hb dL_cast_87 (by decide) (fun c_87 => ?_) (fun c_87 => ?_)
          · exact absurd c_87 (by decide)
          refine lv_iload hx hb dL_cast_90 (lv_at hl 1 rfl) ?_
          refine lv_if_lt (tgt := 178) hx hb dL_cast_92 (by decide) (fun c_92 => ?_) (fun c_92 => ?_)
          rotate_left
          · exact absurd (by decide) c_92
          refine lv_iinc (v := nI (k + 1)) (lv' := [(6, .int (nI (k + 1))), (5, .int (1 : Int32)), (7, .int (-1 : Int32)), (0, .ref x), (1, .int (S 10 0)), (2, .int (-1 : Int32)), (3, .int (0 : Int32)), (4, .int (0 : Int32))]) hx hb dL_cast_178 hl (k := 7) rfl (nI_1 _) (by decide) rfl (fun ls hl => ?_)
          refine lv_goto (tgt := 34) hx hb dL_cast_181 (by decide) ?_
          refine W.widen (k := (4 + 24 * (k + 1))) (n := (24 + 144 * (k + 1))) (by show ((4 + 24 * k) + 4) ≤ (4 + 24 * (k + 1)); omega) (by show ((24 + 144 * k) + 24) ≤ (24 + 144 * (k + 1)); omega) ?_
          exact ih34 (k + 1) u9_49 _ _ _ (by omega) (by first | omega | assumption | first | rfl | (simp [c_17, c_37]; done) | omega) hP hD hS (lv_cons (lv_at hl 3 rfl) (lv_cons (lv_at hl 4 rfl) (lv_cons (lv_at hl 5 rfl) (lv_cons (lv_at hl 6 rfl) (lv_cons (lv_at hl 7 rfl) (lv_cons (lv_at hl 1 rfl) (lv_cons (lv_at hl 0 rfl) (lv_nil hl))))))))
    refine W.widen (k := (4 + 24 * 0)) (n := (24 + 144 * 0)) (by show 4 ≤ (4 + 24 * 0); omega) (by show 24 ≤ (24 + 144 * 0); omega) ?_
    exact lp34 _ 0 u9_7 _ _ _ (Nat.lt_succ_self _) (by first | omega | assumption | first | rfl | (simp [c_17]; done) | omega) hP hD hS (lv_cons (lv_at hl 6 rfl) (lv_cons (lv_at hl 5 rfl) (lv_cons (lv_at hl 4 rfl) (lv_cons (lv_at hl 3 rfl) (lv_cons (lv_at hl 2 rfl) (lv_cons (lv_at hl 1 rfl) (lv_cons (lv_is (lv_at hl 0 rfl) (show (0 : Int32) = nI 0 by first | rfl | (simp [c_17]; done) | omega)) (lv_nil hl))))))))
  · exact absurd hd (by rw [cv_z (show R = 0 by omega)]; decide)

abbrev rm_L_cast : Room := { frames := 8, cells := 300, slots := 1800, locals := 134 }
theorem c_L_cast (l : Launch) (K : KX) (x : Nat) (tx : Nat) (ho : Nat) (ca : Nat) (tr : Nat) (hi : Nat) (sl : Nat) (sv : Nat) (hoa : Nat → Nat) (S : HV) (caa : Nat → Nat) (C : HV) (R : Nat) (hR0 : S 10 0 = nI R) (hR0b : R ≤ 6) (P : Nat) (hP0 : S 11 0 = nI P) (hP0b : P ≤ 10) (hls : l.stackTraces = false) (B : Nat) (hI : INV S R P B) (sz : Nat) : Met l yL_cast wsL_cast rm_L_cast (va_Pc [.ref x] (xPreS K ([(x, .inr (5, [.ref tx, .ref ho, .ref ca, .ref tr, .ref hi, .ref sl, .ref sv]))] ++ hw K ho hoa S ++ cw K ca caa C) sz)) (va_Qi (fun (r9 : Int32) (u9 : HV) => r9 = 1) (fun u9 t => xPost K (va_A ([(x, .inr (5, [.ref tx, .ref ho, .ref ca, .ref tr, .ref hi, .ref sl, .ref sv]))] ++ hw K ho hoa S ++ cw K ca caa C) sz) ([(x, .inr (5, [.ref tx, .ref ho, .ref ca, .ref tr, .ref hi, .ref sl, .ref sv]))] ++ hw K ho hoa S ++ cw K ca caa u9) t) (va_A ([(x, .inr (5, [.ref tx, .ref ho, .ref ca, .ref tr, .ref hi, .ref sl, .ref sv]))] ++ hw K ho hoa S ++ cw K ca caa C) sz)) 300 1800 (va_A ([(x, .inr (5, [.ref tx, .ref ho, .ref ca, .ref tr, .ref hi, .ref sl, .ref sv]))] ++ hw K ho hoa S ++ cw K ca caa C) sz) := by
  by_cases hd : hStr S R P = -1
  · exact c_L_cast_n l K x tx ho ca tr hi sl sv hoa S caa C R hR0 hR0b P hP0 hP0b hls B hI hd sz
  · exact c_L_cast_y l K x tx ho ca tr hi sl sv hoa S caa C R hR0 hR0b P hP0 hP0b hls B hI hd sz

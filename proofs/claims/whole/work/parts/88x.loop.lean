/-! the loop of the law -/
section LLP
variable {p : Program} {l : Launch} {e : Env} {R : Room} {s : State} {m : MethodId} {args : Array Value} {below : List Frame} {meth : Method} {c : Code} {H : Heap} {locs : List Loc} {cells slots : Nat} {Q : State → Prop}
variable {K : KX} {A : Nat → Prop} {xs : Nat → Int32} {LL b : Nat} {a : LAd}
theorem lp_ge {i LL : Nat} (hLL : LL ≤ 2048) (hi : i ≤ 2048) (h : ¬ nI LL - nI 4 < nI i) : i + 4 ≤ LL := by
  rw [Int32.lt_iff_toInt_lt, pk_sub_toInt (by omega) (by omega), nI_toInt (by omega)] at h
  omega
set_option maxHeartbeats 4000000 in
set_option maxRecDepth 100000 in
theorem lp_loop (hls : l.stackTraces = false) (X : LCx p s m args c K A xs LL b) (hend : ∀ (H : Heap) (locs : List Loc) (ls : Array Slot) (cells slots : Nat), va_S A s.heap H locs → cells ≤ 601024 → slots ≤ 7293034 → W p l e room_1 s m args below meth c H locs cells slots Q (F0 m 1834 ls [])) : ∀ n i, LL < i + 4 * n → i ≤ LL → LNext p l e s m args below meth c Q K a A b i (12000 + 25 * i) (400 + i) (20000 + 6 * i) 23 := by
  intro n
  induction n with
  | zero =>
    intro i h1 h2
    exact absurd h1 (by omega)
  | succ n ih =>
    intro i h1 h2 T S C U M cn nx Ss Sl V RR PP L ch g9 H locs ls hI hP hD hS hl
    have X9 := X
    obtain ⟨hx, hb, hml, hown, hts, hK, hZ, hA, hX, hbl, hbA, hLL⟩ := X9
    refine lv_iload hx hb dL_law_23 (lv_at hl 4 rfl) ?_
    refine lv_aload_n hx hb dL_law_25 rfl (lv_at hl 0 rfl) ?_
    refine va_slen hx hb hX hbl hbA hS dL_law_26 ?_
    refine lv_iconst (v := nI 4) hx hb dL_law_27 (by decide) ?_
    refine lv_isub hx hb dL_law_28 ?_
    refine lv_icmp_gt (tgt := 1834) hx hb dL_law_29 (by decide) (fun _ => ?_) (fun c9 => ?_)
    · exact hend _ _ _ _ _ hS (by omega) (by omega)
    · have hi4 : i + 4 ≤ LL := lp_ge hLL (by omega) c9
      refine lv_aload_n hx hb dL_law_32 rfl (lv_at hl 0 rfl) ?_
      refine lv_iload hx hb dL_law_33 (lv_at hl 4 rfl) ?_
      refine va_sld hx hb hX hbl hbA hS (vp_in_nI (by omega) (by omega)) dL_law_35 ?_
      refine lv_bipush (v := (31 : Int32)) hx hb dL_law_36 (by decide) ?_
      refine lv_iand hx hb dL_law_38 ?_
      have kn : LNext p l e s m args below meth c Q K a A b i (12000 + 25 * i + 100) (400 + i + 4) (20000 + 6 * i + 24) 1828 := by
        intro T S C U M cn nx Ss Sl V RR PP L ch g9 H locs ls hI hP hD hS hl
        refine lv_iinc (v := nI (i + 4)) (lv' := [(4, .int (nI (i + 4))), (0, .ref b), (1, .ref a.x), (2, .ref a.y), (3, .ref a.o)]) hx hb dL_law_1828 hl (k := 4) rfl (nI_add i 4) (by decide) rfl (fun ls hl => ?_)
        refine lv_goto (tgt := 23) hx hb dL_law_1831 (by decide) ?_
        have hl := lv_sub (l' := [(0, .ref b), (1, .ref a.x), (2, .ref a.y), (3, .ref a.o), (4, .int (nI (i + 4)))]) hl [1, 2, 3, 4, 0] rfl
        have h9 := ih (i + 4) (by omega) hi4
        rw [show 12000 + 25 * (i + 4) = 12000 + 25 * i + 100 by omega, show 400 + (i + 4) = 400 + i + 4 by omega, show 20000 + 6 * (i + 4) = 20000 + 6 * i + 24 by omega] at h9
        exact h9 T S C U M cn nx Ss Sl V RR PP L ch g9 H locs ls hI hP hD hS hl
      have hB1 : 12000 + 25 * i ≤ 100000 := by omega
      have hB2 : 12000 ≤ 12000 + 25 * i := by omega
      have hc4 : 400 + i + 4 ≤ 601024 := by omega
      have hs4 : 20000 + 6 * i + 24 ≤ 7293034 := by omega
      generalize xs (nI i).toNatClampNeg &&& 31 = v
      by_cases e0 : v = (0 : Int32)
      · rw [e0]
        refine lv_tableIn (off := 133) (tgt := 172) hx hb dL_law_39 (by decide) (by decide) (by decide) (by decide) ?_
        exact lc_append hls X hI hB1 hB2 hi4 hc4 hs4 hP hD hS hl kn
      by_cases e1 : v = (1 : Int32)
      · rw [e1]
        refine lv_tableIn (off := 189) (tgt := 228) hx hb dL_law_39 (by decide) (by decide) (by decide) (by decide) ?_
        exact lc_clearText hls X hI hB1 hB2 hi4 hc4 hs4 hP hD hS hl kn
      by_cases e2 : v = (2 : Int32)
      · rw [e2]
        refine lv_tableIn (off := 202) (tgt := 241) hx hb dL_law_39 (by decide) (by decide) (by decide) (by decide) ?_
        exact lc_errorPosition hls X hI hB1 hB2 hi4 hc4 hs4 hP hD hS hl kn
      by_cases e3 : v = (3 : Int32)
      · rw [e3]
        refine lv_tableIn (off := 215) (tgt := 254) hx hb dL_law_39 (by decide) (by decide) (by decide) (by decide) ?_
        exact lc_load hls X hI hB1 hB2 hi4 hc4 hs4 hP hD hS hl kn
      by_cases e4 : v = (4 : Int32)
      · rw [e4]
        refine lv_tableIn (off := 259) (tgt := 298) hx hb dL_law_39 (by decide) (by decide) (by decide) (by decide) ?_
        exact lc_about hls X hI hB1 hB2 hi4 hc4 hs4 hP hD hS hl kn
      by_cases e5 : v = (5 : Int32)
      · rw [e5]
        refine lv_tableIn (off := 315) (tgt := 354) hx hb dL_law_39 (by decide) (by decide) (by decide) (by decide) ?_
        exact lc_role hls X hI hB1 hB2 hi4 hc4 hs4 hP hD hS hl kn
      by_cases e6 : v = (6 : Int32)
      · rw [e6]
        refine lv_tableIn (off := 383) (tgt := 422) hx hb dL_law_39 (by decide) (by decide) (by decide) (by decide) ?_
        exact lc_player hls X hI hB1 hB2 hi4 hc4 hs4 hP hD hS hl kn
      by_cases e7 : v = (7 : Int32)
      · rw [e7]
        refine lv_tableIn (off := 451) (tgt := 490) hx hb dL_law_39 (by decide) (by decide) (by decide) (by decide) ?_
        exact lc_both hls X hI hB1 hB2 hi4 hc4 hs4 hP hD hS hl kn
      by_cases e8 : v = (8 : Int32)
      · rw [e8]
        refine lv_tableIn (off := 531) (tgt := 570) hx hb dL_law_39 (by decide) (by decide) (by decide) (by decide) ?_
        exact lc_setting hls X hI hB1 hB2 hi4 hc4 hs4 hP hD hS hl kn
      by_cases e9 : v = (9 : Int32)
      · rw [e9]
        refine lv_tableIn (off := 587) (tgt := 626) hx hb dL_law_39 (by decide) (by decide) (by decide) (by decide) ?_
        exact lc_ranked hls X hI hB1 hB2 hi4 hc4 hs4 hP hD hS hl kn
      by_cases e10 : v = (10 : Int32)
      · rw [e10]
        refine lv_tableIn (off := 643) (tgt := 682) hx hb dL_law_39 (by decide) (by decide) (by decide) (by decide) ?_
        exact lc_addRole hls X hI hB1 hB2 hi4 hc4 hs4 hP hD hS hl kn
      by_cases e11 : v = (11 : Int32)
      · rw [e11]
        refine lv_tableIn (off := 699) (tgt := 738) hx hb dL_law_39 (by decide) (by decide) (by decide) (by decide) ?_
        exact lc_addPlayer hls X hI hB1 hB2 hi4 hc4 hs4 hP hD hS hl kn
      by_cases e12 : v = (12 : Int32)
      · rw [e12]
        refine lv_tableIn (off := 743) (tgt := 782) hx hb dL_law_39 (by decide) (by decide) (by decide) (by decide) ?_
        exact lc_ready hls X hI hB1 hB2 hi4 hc4 hs4 hP hD hS hl kn
      by_cases e13 : v = (13 : Int32)
      · rw [e13]
        refine lv_tableIn (off := 823) (tgt := 862) hx hb dL_law_39 (by decide) (by decide) (by decide) (by decide) ?_
        exact lc_first hls X hI hB1 hB2 hi4 hc4 hs4 hP hD hS hl kn
      by_cases e14 : v = (14 : Int32)
      · rw [e14]
        refine lv_tableIn (off := 891) (tgt := 930) hx hb dL_law_39 (by decide) (by decide) (by decide) (by decide) ?_
        exact lc_away hls X hI hB1 hB2 hi4 hc4 hs4 hP hD hS hl kn
      by_cases e15 : v = (15 : Int32)
      · rw [e15]
        refine lv_tableIn (off := 959) (tgt := 998) hx hb dL_law_39 (by decide) (by decide) (by decide) (by decide) ?_
        exact lc_post hls X hI hB1 hB2 hi4 hc4 hs4 hP hD hS hl kn
      by_cases e16 : v = (16 : Int32)
      · rw [e16]
        refine lv_tableIn (off := 1003) (tgt := 1042) hx hb dL_law_39 (by decide) (by decide) (by decide) (by decide) ?_
        exact lc_play hls X hI hB1 hB2 hi4 hc4 hs4 hP hD hS hl kn
      by_cases e17 : v = (17 : Int32)
      · rw [e17]
        refine lv_tableIn (off := 1047) (tgt := 1086) hx hb dL_law_39 (by decide) (by decide) (by decide) (by decide) ?_
        exact lc_dark hls X hI hB1 hB2 hi4 hc4 hs4 hP hD hS hl kn
      by_cases e18 : v = (18 : Int32)
      · rw [e18]
        refine lv_tableIn (off := 1103) (tgt := 1142) hx hb dL_law_39 (by decide) (by decide) (by decide) (by decide) ?_
        exact lc_promote hls X hI hB1 hB2 hi4 hc4 hs4 hP hD hS hl kn
      by_cases e19 : v = (19 : Int32)
      · rw [e19]
        refine lv_tableIn (off := 1159) (tgt := 1198) hx hb dL_law_39 (by decide) (by decide) (by decide) (by decide) ?_
        exact lc_set hls X hI hB1 hB2 hi4 hc4 hs4 hP hD hS hl kn
      by_cases e20 : v = (20 : Int32)
      · rw [e20]
        refine lv_tableIn (off := 1227) (tgt := 1266) hx hb dL_law_39 (by decide) (by decide) (by decide) (by decide) ?_
        exact lc_undo hls X hI hB1 hB2 hi4 hc4 hs4 hP hD hS hl kn
      by_cases e21 : v = (21 : Int32)
      · rw [e21]
        refine lv_tableIn (off := 1271) (tgt := 1310) hx hb dL_law_39 (by decide) (by decide) (by decide) (by decide) ?_
        exact lc_strength hls X hI hB1 hB2 hi4 hc4 hs4 hP hD hS hl kn
      by_cases e22 : v = (22 : Int32)
      · rw [e22]
        refine lv_tableIn (off := 1284) (tgt := 1323) hx hb dL_law_39 (by decide) (by decide) (by decide) (by decide) ?_
        exact lc_without hls X hI hB1 hB2 hi4 hc4 hs4 hP hD hS hl kn
      by_cases e23 : v = (23 : Int32)
      · rw [e23]
        refine lv_tableIn (off := 1340) (tgt := 1379) hx hb dL_law_39 (by decide) (by decide) (by decide) (by decide) ?_
        exact lc_missed hls X hI hB1 hB2 hi4 hc4 hs4 hP hD hS hl kn
      by_cases e24 : v = (24 : Int32)
      · rw [e24]
        refine lv_tableIn (off := 1353) (tgt := 1392) hx hb dL_law_39 (by decide) (by decide) (by decide) (by decide) ?_
        exact lc_coming hls X hI hB1 hB2 hi4 hc4 hs4 hP hD hS hl kn
      by_cases e25 : v = (25 : Int32)
      · rw [e25]
        refine lv_tableIn (off := 1409) (tgt := 1448) hx hb dL_law_39 (by decide) (by decide) (by decide) (by decide) ?_
        exact lc_degreeFor hls X hI hB1 hB2 hi4 hc4 hs4 hP hD hS hl kn
      by_cases e26 : v = (26 : Int32)
      · rw [e26]
        refine lv_tableIn (off := 1477) (tgt := 1516) hx hb dL_law_39 (by decide) (by decide) (by decide) (by decide) ?_
        exact lc_runScript hls X hI hB1 hB2 hi4 hc4 hs4 hP hD hS hl kn
      by_cases e27 : v = (27 : Int32)
      · rw [e27]
        refine lv_tableIn (off := 1577) (tgt := 1616) hx hb dL_law_39 (by decide) (by decide) (by decide) (by decide) ?_
        exact lc_simulate hls X hI hB1 hB2 hi4 hc4 hs4 hP hD hS hl kn
      by_cases e28 : v = (28 : Int32)
      · rw [e28]
        refine lv_tableIn (off := 1677) (tgt := 1716) hx hb dL_law_39 (by decide) (by decide) (by decide) (by decide) ?_
        exact lc_save hls X hI hB1 hB2 hi4 hc4 hs4 hP hD hS hl kn
      by_cases e29 : v = (29 : Int32)
      · rw [e29]
        refine lv_tableIn (off := 1733) (tgt := 1772) hx hb dL_law_39 (by decide) (by decide) (by decide) (by decide) ?_
        exact lc_restore hls X hI hB1 hB2 hi4 hc4 hs4 hP hD hS hl kn
      have n0 := lv_neT (a := 0) e0 rfl
      have n1 := lv_neT (a := 1) e1 rfl
      have n2 := lv_neT (a := 2) e2 rfl
      have n3 := lv_neT (a := 3) e3 rfl
      have n4 := lv_neT (a := 4) e4 rfl
      have n5 := lv_neT (a := 5) e5 rfl
      have n6 := lv_neT (a := 6) e6 rfl
      have n7 := lv_neT (a := 7) e7 rfl
      have n8 := lv_neT (a := 8) e8 rfl
      have n9 := lv_neT (a := 9) e9 rfl
      have n10 := lv_neT (a := 10) e10 rfl
      have n11 := lv_neT (a := 11) e11 rfl
      have n12 := lv_neT (a := 12) e12 rfl
      have n13 := lv_neT (a := 13) e13 rfl
      have n14 := lv_neT (a := 14) e14 rfl
      have n15 := lv_neT (a := 15) e15 rfl
      have n16 := lv_neT (a := 16) e16 rfl
      have n17 := lv_neT (a := 17) e17 rfl
      have n18 := lv_neT (a := 18) e18 rfl
      have n19 := lv_neT (a := 19) e19 rfl
      have n20 := lv_neT (a := 20) e20 rfl
      have n21 := lv_neT (a := 21) e21 rfl
      have n22 := lv_neT (a := 22) e22 rfl
      have n23 := lv_neT (a := 23) e23 rfl
      have n24 := lv_neT (a := 24) e24 rfl
      have n25 := lv_neT (a := 25) e25 rfl
      have n26 := lv_neT (a := 26) e26 rfl
      have n27 := lv_neT (a := 27) e27 rfl
      have n28 := lv_neT (a := 28) e28 rfl
      have n29 := lv_neT (a := 29) e29 rfl
      refine lv_tableOut (tgt := 1828) hx hb dL_law_39 (by omega) (by decide) ?_
      refine W.widen (k := 400 + i + 4) (n := 20000 + 6 * i + 24) (Nat.le_add_right _ 4) (Nat.le_add_right _ 24) ?_
      exact kn T S C U M cn nx Ss Sl V RR PP L ch g9 H locs ls (LI_keep hI (Nat.le_add_right _ 100) rfl rfl rfl rfl rfl rfl rfl) hP hD hS hl
end LLP

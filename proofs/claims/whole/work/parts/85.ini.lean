/-! the constructors of the model and of the class -/
def hMd : HV := hrow hZr 0 mEmp

abbrev rm_X6_init : Room := { frames := 2, cells := 9, slots := 5056, locals := 43 }
set_option maxHeartbeats 4000000 in
set_option maxRecDepth 100000 in
theorem c_X6_init (l : Launch) (K : KX) (h : Nat) (sz : Nat) : Met l yX6_init wsX6_init rm_X6_init (va_Pc [.ref h] (xPre K ([(h, .inr (6, [.null, .null, .null, .int (0 : Int32), .null, .null, .null, .int (0 : Int32), .int (0 : Int32), .null, .null, .null, .int (0 : Int32), .int (0 : Int32)]))]) sz)) (va_Qv (fun u9 : Nat → Nat => True) (fun u9 t => xPost K (va_A ([(h, .inr (6, [.null, .null, .null, .int (0 : Int32), .null, .null, .null, .int (0 : Int32), .int (0 : Int32), .null, .null, .null, .int (0 : Int32), .int (0 : Int32)]))]) sz) (mw K h u9 (hrow hZr 0 mEmp)) t) (va_A ([(h, .inr (6, [.null, .null, .null, .int (0 : Int32), .null, .null, .null, .int (0 : Int32), .int (0 : Int32), .null, .null, .null, .int (0 : Int32), .int (0 : Int32)]))]) sz)) 9 5056 (va_A ([(h, .inr (6, [.null, .null, .null, .int (0 : Int32), .null, .null, .null, .int (0 : Int32), .int (0 : Int32), .null, .null, .null, .int (0 : Int32), .int (0 : Int32)]))]) sz) := by
  refine xw_startv (cc := cX6_init) (maxL := 1) (by decide) rfl (Nat.le_of_ble_eq_true rfl) ?_
  intro p9 e9 s9 m9 below9 meth9 c9 H locs ls A av9 Q9 hx hb hlocks hml hname hts hown hK hP hD hS hA hsz hend hl
  have hown : s9.vm.findClass RX6 = some m9.cls := hown
  have hl : lv_has ls 1 [(0, .ref h)] := hl
  have hi6 : ∀ w ∈ u_ws RX6 TX6 14, w ∈ wsX6_init := by decide +kernel
  have lk7 := hts (.fieldLink RX6 7 "StandInsModel" "now" "[I") (by decide +kernel)
  have lk13 := hts (.fieldLink RX6 13 "StandInsModel" "trial" "[I") (by decide +kernel)
  have lk16 := hts (.fieldLink RX6 16 "StandInsModel" "past" "[I") (by decide +kernel)
  have lk19 := hts (.fieldLink RX6 19 "StandInsModel" "slots" "[I") (by decide +kernel)
  have lk22 := hts (.fieldLink RX6 22 "StandInsModel" "held" "[Z") (by decide +kernel)
  have lk26 := hts (.fieldLink RX6 26 "StandInsModel" "text" "[I") (by decide +kernel)
  have lk29 := hts (.fieldLink RX6 29 "StandInsModel" "reach" "[I") (by decide +kernel)
  have lk32 := hts (.fieldLink RX6 32 "StandInsModel" "cast" "[I") (by decide +kernel)
  have lk35 := hts (.fieldLink RX6 35 "StandInsModel" "told" "[I") (by decide +kernel)
  refine lv_aload_n hx hb dX6_init_0 rfl (lv_at hl 0 rfl) ?_
  refine W.objInit hx hb hown (hts (.methodLink RX6 1 objectInit) (by decide +kernel)) (hts (.instanceMethod objectInit) (by decide +kernel)) (hts (.code objectInit ⟨#[0xb1]⟩ 1 none) (by decide +kernel)) rfl (by rw [hml]; exact hl.1) rfl dX6_init_1 (Nat.le_of_ble_eq_true rfl) (Nat.le_of_ble_eq_true rfl) ?_
  refine W.eq (g2 := F0 m9 4 ls []) rfl ?_
  refine lv_aload_n hx hb dX6_init_4 rfl (lv_at hl 0 rfl) ?_
  refine lv_sipush (v := (190 : Int32)) hx hb dX6_init_5 (by decide) ?_
  refine xi_new hx hb (hts (.arrayClass .int) (by decide +kernel)) hK hP hD hS hA 190 rfl (by decide) (Nat.le_of_ble_eq_true rfl) (Nat.le_of_ble_eq_true rfl) dX6_init_8 (fun q8 H hP hD hS => ?_)
  have hP : va_P K.1 vwCl ([(h, .inr (6, [.null, .null, .null, .int (0 : Int32), .null, .null, .null, .int (0 : Int32), .int (0 : Int32), .null, .null, .null, .int (0 : Int32), .int (0 : Int32)]))] ++ [(q8, aI K 190 (fun _ => 0))]) H := hP
  have hD : va_D A ([(h, .inr (6, [.null, .null, .null, .int (0 : Int32), .null, .null, .null, .int (0 : Int32), .int (0 : Int32), .null, .null, .null, .int (0 : Int32), .int (0 : Int32)]))] ++ [(q8, aI K 190 (fun _ => 0))]) := hD
  refine va_putF (ci := 6) (v := .ref q8) (ty := (tyX6 0)) (C := RX6) (T := TX6) (N := 14) hx hb hts hi6 tyX6 tyX6_ok nmX6 hown hK hP hD hS 0 rfl rfl 0 (by decide) lk7 (fun _ h9 => h9) rfl hname rfl (by decide +kernel) rfl rfl (Nat.le_of_ble_eq_true rfl) dX6_init_10 (fun H locs hP hD hS => ?_)
  have hP : va_P K.1 vwCl ([(h, .inr (6, [.ref q8, .null, .null, .int (0 : Int32), .null, .null, .null, .int (0 : Int32), .int (0 : Int32), .null, .null, .null, .int (0 : Int32), .int (0 : Int32)]))] ++ [(q8, aI K 190 (fun _ => 0))]) H := hP
  have hD : va_D A ([(h, .inr (6, [.ref q8, .null, .null, .int (0 : Int32), .null, .null, .null, .int (0 : Int32), .int (0 : Int32), .null, .null, .null, .int (0 : Int32), .int (0 : Int32)]))] ++ [(q8, aI K 190 (fun _ => 0))]) := hD
  refine lv_aload_n hx hb dX6_init_13 rfl (lv_at hl 0 rfl) ?_
  refine lv_sipush (v := (190 : Int32)) hx hb dX6_init_14 (by decide) ?_
  refine xi_new hx hb (hts (.arrayClass .int) (by decide +kernel)) hK hP hD hS hA 190 rfl (by decide) (Nat.le_of_ble_eq_true rfl) (Nat.le_of_ble_eq_true rfl) dX6_init_17 (fun q17 H hP hD hS => ?_)
  have hP : va_P K.1 vwCl ([(h, .inr (6, [.ref q8, .null, .null, .int (0 : Int32), .null, .null, .null, .int (0 : Int32), .int (0 : Int32), .null, .null, .null, .int (0 : Int32), .int (0 : Int32)]))] ++ [(q8, aI K 190 (fun _ => 0))] ++ [(q17, aI K 190 (fun _ => 0))]) H := hP
  have hD : va_D A ([(h, .inr (6, [.ref q8, .null, .null, .int (0 : Int32), .null, .null, .null, .int (0 : Int32), .int (0 : Int32), .null, .null, .null, .int (0 : Int32), .int (0 : Int32)]))] ++ [(q8, aI K 190 (fun _ => 0))] ++ [(q17, aI K 190 (fun _ => 0))]) := hD
  refine va_putF (ci := 6) (v := .ref q17) (ty := (tyX6 1)) (C := RX6) (T := TX6) (N := 14) hx hb hts hi6 tyX6 tyX6_ok nmX6 hown hK hP hD hS 0 rfl rfl 1 (by decide) lk13 (fun _ h9 => h9) rfl hname rfl (by decide +kernel) rfl rfl (Nat.le_of_ble_eq_true rfl) dX6_init_19 (fun H locs hP hD hS => ?_)
  have hP : va_P K.1 vwCl ([(h, .inr (6, [.ref q8, .ref q17, .null, .int (0 : Int32), .null, .null, .null, .int (0 : Int32), .int (0 : Int32), .null, .null, .null, .int (0 : Int32), .int (0 : Int32)]))] ++ [(q8, aI K 190 (fun _ => 0))] ++ [(q17, aI K 190 (fun _ => 0))]) H := hP
  have hD : va_D A ([(h, .inr (6, [.ref q8, .ref q17, .null, .int (0 : Int32), .null, .null, .null, .int (0 : Int32), .int (0 : Int32), .null, .null, .null, .int (0 : Int32), .int (0 : Int32)]))] ++ [(q8, aI K 190 (fun _ => 0))] ++ [(q17, aI K 190 (fun _ => 0))]) := hD
  refine lv_aload_n hx hb dX6_init_22 rfl (lv_at hl 0 rfl) ?_
  refine lv_sipush (v := (2660 : Int32)) hx hb dX6_init_23 (by decide) ?_
  refine xi_new hx hb (hts (.arrayClass .int) (by decide +kernel)) hK hP hD hS hA 2660 rfl (by decide) (Nat.le_of_ble_eq_true rfl) (Nat.le_of_ble_eq_true rfl) dX6_init_26 (fun q26 H hP hD hS => ?_)
  have hP : va_P K.1 vwCl ([(h, .inr (6, [.ref q8, .ref q17, .null, .int (0 : Int32), .null, .null, .null, .int (0 : Int32), .int (0 : Int32), .null, .null, .null, .int (0 : Int32), .int (0 : Int32)]))] ++ [(q8, aI K 190 (fun _ => 0))] ++ [(q17, aI K 190 (fun _ => 0))] ++ [(q26, aI K 2660 (fun _ => 0))]) H := hP
  have hD : va_D A ([(h, .inr (6, [.ref q8, .ref q17, .null, .int (0 : Int32), .null, .null, .null, .int (0 : Int32), .int (0 : Int32), .null, .null, .null, .int (0 : Int32), .int (0 : Int32)]))] ++ [(q8, aI K 190 (fun _ => 0))] ++ [(q17, aI K 190 (fun _ => 0))] ++ [(q26, aI K 2660 (fun _ => 0))]) := hD
  refine va_putF (ci := 6) (v := .ref q26) (ty := (tyX6 2)) (C := RX6) (T := TX6) (N := 14) hx hb hts hi6 tyX6 tyX6_ok nmX6 hown hK hP hD hS 0 rfl rfl 2 (by decide) lk16 (fun _ h9 => h9) rfl hname rfl (by decide +kernel) rfl rfl (Nat.le_of_ble_eq_true rfl) dX6_init_28 (fun H locs hP hD hS => ?_)
  have hP : va_P K.1 vwCl ([(h, .inr (6, [.ref q8, .ref q17, .ref q26, .int (0 : Int32), .null, .null, .null, .int (0 : Int32), .int (0 : Int32), .null, .null, .null, .int (0 : Int32), .int (0 : Int32)]))] ++ [(q8, aI K 190 (fun _ => 0))] ++ [(q17, aI K 190 (fun _ => 0))] ++ [(q26, aI K 2660 (fun _ => 0))]) H := hP
  have hD : va_D A ([(h, .inr (6, [.ref q8, .ref q17, .ref q26, .int (0 : Int32), .null, .null, .null, .int (0 : Int32), .int (0 : Int32), .null, .null, .null, .int (0 : Int32), .int (0 : Int32)]))] ++ [(q8, aI K 190 (fun _ => 0))] ++ [(q17, aI K 190 (fun _ => 0))] ++ [(q26, aI K 2660 (fun _ => 0))]) := hD
  refine lv_aload_n hx hb dX6_init_31 rfl (lv_at hl 0 rfl) ?_
  refine lv_sipush (v := (380 : Int32)) hx hb dX6_init_32 (by decide) ?_
  refine xi_new hx hb (hts (.arrayClass .int) (by decide +kernel)) hK hP hD hS hA 380 rfl (by decide) (Nat.le_of_ble_eq_true rfl) (Nat.le_of_ble_eq_true rfl) dX6_init_35 (fun q35 H hP hD hS => ?_)
  have hP : va_P K.1 vwCl ([(h, .inr (6, [.ref q8, .ref q17, .ref q26, .int (0 : Int32), .null, .null, .null, .int (0 : Int32), .int (0 : Int32), .null, .null, .null, .int (0 : Int32), .int (0 : Int32)]))] ++ [(q8, aI K 190 (fun _ => 0))] ++ [(q17, aI K 190 (fun _ => 0))] ++ [(q26, aI K 2660 (fun _ => 0))] ++ [(q35, aI K 380 (fun _ => 0))]) H := hP
  have hD : va_D A ([(h, .inr (6, [.ref q8, .ref q17, .ref q26, .int (0 : Int32), .null, .null, .null, .int (0 : Int32), .int (0 : Int32), .null, .null, .null, .int (0 : Int32), .int (0 : Int32)]))] ++ [(q8, aI K 190 (fun _ => 0))] ++ [(q17, aI K 190 (fun _ => 0))] ++ [(q26, aI K 2660 (fun _ => 0))] ++ [(q35, aI K 380 (fun _ => 0))]) := hD
  refine va_putF (ci := 6) (v := .ref q35) (ty := (tyX6 4)) (C := RX6) (T := TX6) (N := 14) hx hb hts hi6 tyX6 tyX6_ok nmX6 hown hK hP hD hS 0 rfl rfl 4 (by decide) lk19 (fun _ h9 => h9) rfl hname rfl (by decide +kernel) rfl rfl (Nat.le_of_ble_eq_true rfl) dX6_init_37 (fun H locs hP hD hS => ?_)
  have hP : va_P K.1 vwCl ([(h, .inr (6, [.ref q8, .ref q17, .ref q26, .int (0 : Int32), .ref q35, .null, .null, .int (0 : Int32), .int (0 : Int32), .null, .null, .null, .int (0 : Int32), .int (0 : Int32)]))] ++ [(q8, aI K 190 (fun _ => 0))] ++ [(q17, aI K 190 (fun _ => 0))] ++ [(q26, aI K 2660 (fun _ => 0))] ++ [(q35, aI K 380 (fun _ => 0))]) H := hP
  have hD : va_D A ([(h, .inr (6, [.ref q8, .ref q17, .ref q26, .int (0 : Int32), .ref q35, .null, .null, .int (0 : Int32), .int (0 : Int32), .null, .null, .null, .int (0 : Int32), .int (0 : Int32)]))] ++ [(q8, aI K 190 (fun _ => 0))] ++ [(q17, aI K 190 (fun _ => 0))] ++ [(q26, aI K 2660 (fun _ => 0))] ++ [(q35, aI K 380 (fun _ => 0))]) := hD
  refine lv_aload_n hx hb dX6_init_40 rfl (lv_at hl 0 rfl) ?_
  refine lv_iconst (v := (2 : Int32)) hx hb dX6_init_41 (by decide) ?_
  refine xz_new hx hb (hts (.arrayClass .boolean) (by decide +kernel)) hK hP hD hS hA 2 rfl (by decide) (Nat.le_of_ble_eq_true rfl) (Nat.le_of_ble_eq_true rfl) dX6_init_42 (fun q42 H hP hD hS => ?_)
  have hP : va_P K.1 vwCl ([(h, .inr (6, [.ref q8, .ref q17, .ref q26, .int (0 : Int32), .ref q35, .null, .null, .int (0 : Int32), .int (0 : Int32), .null, .null, .null, .int (0 : Int32), .int (0 : Int32)]))] ++ [(q8, aI K 190 (fun _ => 0))] ++ [(q17, aI K 190 (fun _ => 0))] ++ [(q26, aI K 2660 (fun _ => 0))] ++ [(q35, aI K 380 (fun _ => 0))] ++ [(q42, aZ K 2 (fun _ => 0))]) H := hP
  have hD : va_D A ([(h, .inr (6, [.ref q8, .ref q17, .ref q26, .int (0 : Int32), .ref q35, .null, .null, .int (0 : Int32), .int (0 : Int32), .null, .null, .null, .int (0 : Int32), .int (0 : Int32)]))] ++ [(q8, aI K 190 (fun _ => 0))] ++ [(q17, aI K 190 (fun _ => 0))] ++ [(q26, aI K 2660 (fun _ => 0))] ++ [(q35, aI K 380 (fun _ => 0))] ++ [(q42, aZ K 2 (fun _ => 0))]) := hD
  refine va_putF (ci := 6) (v := .ref q42) (ty := (tyX6 5)) (C := RX6) (T := TX6) (N := 14) hx hb hts hi6 tyX6 tyX6_ok nmX6 hown hK hP hD hS 0 rfl rfl 5 (by decide) lk22 (fun _ h9 => h9) rfl hname rfl (by decide +kernel) rfl rfl (Nat.le_of_ble_eq_true rfl) dX6_init_44 (fun H locs hP hD hS => ?_)
  have hP : va_P K.1 vwCl ([(h, .inr (6, [.ref q8, .ref q17, .ref q26, .int (0 : Int32), .ref q35, .ref q42, .null, .int (0 : Int32), .int (0 : Int32), .null, .null, .null, .int (0 : Int32), .int (0 : Int32)]))] ++ [(q8, aI K 190 (fun _ => 0))] ++ [(q17, aI K 190 (fun _ => 0))] ++ [(q26, aI K 2660 (fun _ => 0))] ++ [(q35, aI K 380 (fun _ => 0))] ++ [(q42, aZ K 2 (fun _ => 0))]) H := hP
  have hD : va_D A ([(h, .inr (6, [.ref q8, .ref q17, .ref q26, .int (0 : Int32), .ref q35, .ref q42, .null, .int (0 : Int32), .int (0 : Int32), .null, .null, .null, .int (0 : Int32), .int (0 : Int32)]))] ++ [(q8, aI K 190 (fun _ => 0))] ++ [(q17, aI K 190 (fun _ => 0))] ++ [(q26, aI K 2660 (fun _ => 0))] ++ [(q35, aI K 380 (fun _ => 0))] ++ [(q42, aZ K 2 (fun _ => 0))]) := hD
  refine lv_aload_n hx hb dX6_init_47 rfl (lv_at hl 0 rfl) ?_
  refine lv_bipush (v := (120 : Int32)) hx hb dX6_init_48 (by decide) ?_
  refine xi_new hx hb (hts (.arrayClass .int) (by decide +kernel)) hK hP hD hS hA 120 rfl (by decide) (Nat.le_of_ble_eq_true rfl) (Nat.le_of_ble_eq_true rfl) dX6_init_50 (fun q50 H hP hD hS => ?_)
  have hP : va_P K.1 vwCl ([(h, .inr (6, [.ref q8, .ref q17, .ref q26, .int (0 : Int32), .ref q35, .ref q42, .null, .int (0 : Int32), .int (0 : Int32), .null, .null, .null, .int (0 : Int32), .int (0 : Int32)]))] ++ [(q8, aI K 190 (fun _ => 0))] ++ [(q17, aI K 190 (fun _ => 0))] ++ [(q26, aI K 2660 (fun _ => 0))] ++ [(q35, aI K 380 (fun _ => 0))] ++ [(q42, aZ K 2 (fun _ => 0))] ++ [(q50, aI K 120 (fun _ => 0))]) H := hP
  have hD : va_D A ([(h, .inr (6, [.ref q8, .ref q17, .ref q26, .int (0 : Int32), .ref q35, .ref q42, .null, .int (0 : Int32), .int (0 : Int32), .null, .null, .null, .int (0 : Int32), .int (0 : Int32)]))] ++ [(q8, aI K 190 (fun _ => 0))] ++ [(q17, aI K 190 (fun _ => 0))] ++ [(q26, aI K 2660 (fun _ => 0))] ++ [(q35, aI K 380 (fun _ => 0))] ++ [(q42, aZ K 2 (fun _ => 0))] ++ [(q50, aI K 120 (fun _ => 0))]) := hD
  refine va_putF (ci := 6) (v := .ref q50) (ty := (tyX6 6)) (C := RX6) (T := TX6) (N := 14) hx hb hts hi6 tyX6 tyX6_ok nmX6 hown hK hP hD hS 0 rfl rfl 6 (by decide) lk26 (fun _ h9 => h9) rfl hname rfl (by decide +kernel) rfl rfl (Nat.le_of_ble_eq_true rfl) dX6_init_52 (fun H locs hP hD hS => ?_)
  have hP : va_P K.1 vwCl ([(h, .inr (6, [.ref q8, .ref q17, .ref q26, .int (0 : Int32), .ref q35, .ref q42, .ref q50, .int (0 : Int32), .int (0 : Int32), .null, .null, .null, .int (0 : Int32), .int (0 : Int32)]))] ++ [(q8, aI K 190 (fun _ => 0))] ++ [(q17, aI K 190 (fun _ => 0))] ++ [(q26, aI K 2660 (fun _ => 0))] ++ [(q35, aI K 380 (fun _ => 0))] ++ [(q42, aZ K 2 (fun _ => 0))] ++ [(q50, aI K 120 (fun _ => 0))]) H := hP
  have hD : va_D A ([(h, .inr (6, [.ref q8, .ref q17, .ref q26, .int (0 : Int32), .ref q35, .ref q42, .ref q50, .int (0 : Int32), .int (0 : Int32), .null, .null, .null, .int (0 : Int32), .int (0 : Int32)]))] ++ [(q8, aI K 190 (fun _ => 0))] ++ [(q17, aI K 190 (fun _ => 0))] ++ [(q26, aI K 2660 (fun _ => 0))] ++ [(q35, aI K 380 (fun _ => 0))] ++ [(q42, aZ K 2 (fun _ => 0))] ++ [(q50, aI K 120 (fun _ => 0))]) := hD
  refine lv_aload_n hx hb dX6_init_55 rfl (lv_at hl 0 rfl) ?_
  refine lv_sipush (v := (1024 : Int32)) hx hb dX6_init_56 (by decide) ?_
  refine xi_new hx hb (hts (.arrayClass .int) (by decide +kernel)) hK hP hD hS hA 1024 rfl (by decide) (Nat.le_of_ble_eq_true rfl) (Nat.le_of_ble_eq_true rfl) dX6_init_59 (fun q59 H hP hD hS => ?_)
  have hP : va_P K.1 vwCl ([(h, .inr (6, [.ref q8, .ref q17, .ref q26, .int (0 : Int32), .ref q35, .ref q42, .ref q50, .int (0 : Int32), .int (0 : Int32), .null, .null, .null, .int (0 : Int32), .int (0 : Int32)]))] ++ [(q8, aI K 190 (fun _ => 0))] ++ [(q17, aI K 190 (fun _ => 0))] ++ [(q26, aI K 2660 (fun _ => 0))] ++ [(q35, aI K 380 (fun _ => 0))] ++ [(q42, aZ K 2 (fun _ => 0))] ++ [(q50, aI K 120 (fun _ => 0))] ++ [(q59, aI K 1024 (fun _ => 0))]) H := hP
  have hD : va_D A ([(h, .inr (6, [.ref q8, .ref q17, .ref q26, .int (0 : Int32), .ref q35, .ref q42, .ref q50, .int (0 : Int32), .int (0 : Int32), .null, .null, .null, .int (0 : Int32), .int (0 : Int32)]))] ++ [(q8, aI K 190 (fun _ => 0))] ++ [(q17, aI K 190 (fun _ => 0))] ++ [(q26, aI K 2660 (fun _ => 0))] ++ [(q35, aI K 380 (fun _ => 0))] ++ [(q42, aZ K 2 (fun _ => 0))] ++ [(q50, aI K 120 (fun _ => 0))] ++ [(q59, aI K 1024 (fun _ => 0))]) := hD
  refine va_putF (ci := 6) (v := .ref q59) (ty := (tyX6 9)) (C := RX6) (T := TX6) (N := 14) hx hb hts hi6 tyX6 tyX6_ok nmX6 hown hK hP hD hS 0 rfl rfl 9 (by decide) lk29 (fun _ h9 => h9) rfl hname rfl (by decide +kernel) rfl rfl (Nat.le_of_ble_eq_true rfl) dX6_init_61 (fun H locs hP hD hS => ?_)
  have hP : va_P K.1 vwCl ([(h, .inr (6, [.ref q8, .ref q17, .ref q26, .int (0 : Int32), .ref q35, .ref q42, .ref q50, .int (0 : Int32), .int (0 : Int32), .ref q59, .null, .null, .int (0 : Int32), .int (0 : Int32)]))] ++ [(q8, aI K 190 (fun _ => 0))] ++ [(q17, aI K 190 (fun _ => 0))] ++ [(q26, aI K 2660 (fun _ => 0))] ++ [(q35, aI K 380 (fun _ => 0))] ++ [(q42, aZ K 2 (fun _ => 0))] ++ [(q50, aI K 120 (fun _ => 0))] ++ [(q59, aI K 1024 (fun _ => 0))]) H := hP
  have hD : va_D A ([(h, .inr (6, [.ref q8, .ref q17, .ref q26, .int (0 : Int32), .ref q35, .ref q42, .ref q50, .int (0 : Int32), .int (0 : Int32), .ref q59, .null, .null, .int (0 : Int32), .int (0 : Int32)]))] ++ [(q8, aI K 190 (fun _ => 0))] ++ [(q17, aI K 190 (fun _ => 0))] ++ [(q26, aI K 2660 (fun _ => 0))] ++ [(q35, aI K 380 (fun _ => 0))] ++ [(q42, aZ K 2 (fun _ => 0))] ++ [(q50, aI K 120 (fun _ => 0))] ++ [(q59, aI K 1024 (fun _ => 0))]) := hD
  refine lv_aload_n hx hb dX6_init_64 rfl (lv_at hl 0 rfl) ?_
  refine lv_bipush (v := (6 : Int32)) hx hb dX6_init_65 (by decide) ?_
  refine xi_new hx hb (hts (.arrayClass .int) (by decide +kernel)) hK hP hD hS hA 6 rfl (by decide) (Nat.le_of_ble_eq_true rfl) (Nat.le_of_ble_eq_true rfl) dX6_init_67 (fun q67 H hP hD hS => ?_)
  have hP : va_P K.1 vwCl ([(h, .inr (6, [.ref q8, .ref q17, .ref q26, .int (0 : Int32), .ref q35, .ref q42, .ref q50, .int (0 : Int32), .int (0 : Int32), .ref q59, .null, .null, .int (0 : Int32), .int (0 : Int32)]))] ++ [(q8, aI K 190 (fun _ => 0))] ++ [(q17, aI K 190 (fun _ => 0))] ++ [(q26, aI K 2660 (fun _ => 0))] ++ [(q35, aI K 380 (fun _ => 0))] ++ [(q42, aZ K 2 (fun _ => 0))] ++ [(q50, aI K 120 (fun _ => 0))] ++ [(q59, aI K 1024 (fun _ => 0))] ++ [(q67, aI K 6 (fun _ => 0))]) H := hP
  have hD : va_D A ([(h, .inr (6, [.ref q8, .ref q17, .ref q26, .int (0 : Int32), .ref q35, .ref q42, .ref q50, .int (0 : Int32), .int (0 : Int32), .ref q59, .null, .null, .int (0 : Int32), .int (0 : Int32)]))] ++ [(q8, aI K 190 (fun _ => 0))] ++ [(q17, aI K 190 (fun _ => 0))] ++ [(q26, aI K 2660 (fun _ => 0))] ++ [(q35, aI K 380 (fun _ => 0))] ++ [(q42, aZ K 2 (fun _ => 0))] ++ [(q50, aI K 120 (fun _ => 0))] ++ [(q59, aI K 1024 (fun _ => 0))] ++ [(q67, aI K 6 (fun _ => 0))]) := hD
  refine va_putF (ci := 6) (v := .ref q67) (ty := (tyX6 10)) (C := RX6) (T := TX6) (N := 14) hx hb hts hi6 tyX6 tyX6_ok nmX6 hown hK hP hD hS 0 rfl rfl 10 (by decide) lk32 (fun _ h9 => h9) rfl hname rfl (by decide +kernel) rfl rfl (Nat.le_of_ble_eq_true rfl) dX6_init_69 (fun H locs hP hD hS => ?_)
  have hP : va_P K.1 vwCl ([(h, .inr (6, [.ref q8, .ref q17, .ref q26, .int (0 : Int32), .ref q35, .ref q42, .ref q50, .int (0 : Int32), .int (0 : Int32), .ref q59, .ref q67, .null, .int (0 : Int32), .int (0 : Int32)]))] ++ [(q8, aI K 190 (fun _ => 0))] ++ [(q17, aI K 190 (fun _ => 0))] ++ [(q26, aI K 2660 (fun _ => 0))] ++ [(q35, aI K 380 (fun _ => 0))] ++ [(q42, aZ K 2 (fun _ => 0))] ++ [(q50, aI K 120 (fun _ => 0))] ++ [(q59, aI K 1024 (fun _ => 0))] ++ [(q67, aI K 6 (fun _ => 0))]) H := hP
  have hD : va_D A ([(h, .inr (6, [.ref q8, .ref q17, .ref q26, .int (0 : Int32), .ref q35, .ref q42, .ref q50, .int (0 : Int32), .int (0 : Int32), .ref q59, .ref q67, .null, .int (0 : Int32), .int (0 : Int32)]))] ++ [(q8, aI K 190 (fun _ => 0))] ++ [(q17, aI K 190 (fun _ => 0))] ++ [(q26, aI K 2660 (fun _ => 0))] ++ [(q35, aI K 380 (fun _ => 0))] ++ [(q42, aZ K 2 (fun _ => 0))] ++ [(q50, aI K 120 (fun _ => 0))] ++ [(q59, aI K 1024 (fun _ => 0))] ++ [(q67, aI K 6 (fun _ => 0))]) := hD
  refine lv_aload_n hx hb dX6_init_72 rfl (lv_at hl 0 rfl) ?_
  refine lv_sipush (v := (484 : Int32)) hx hb dX6_init_73 (by decide) ?_
  refine xi_new hx hb (hts (.arrayClass .int) (by decide +kernel)) hK hP hD hS hA 484 rfl (by decide) (Nat.le_of_ble_eq_true rfl) (Nat.le_of_ble_eq_true rfl) dX6_init_76 (fun q76 H hP hD hS => ?_)
  have hP : va_P K.1 vwCl ([(h, .inr (6, [.ref q8, .ref q17, .ref q26, .int (0 : Int32), .ref q35, .ref q42, .ref q50, .int (0 : Int32), .int (0 : Int32), .ref q59, .ref q67, .null, .int (0 : Int32), .int (0 : Int32)]))] ++ [(q8, aI K 190 (fun _ => 0))] ++ [(q17, aI K 190 (fun _ => 0))] ++ [(q26, aI K 2660 (fun _ => 0))] ++ [(q35, aI K 380 (fun _ => 0))] ++ [(q42, aZ K 2 (fun _ => 0))] ++ [(q50, aI K 120 (fun _ => 0))] ++ [(q59, aI K 1024 (fun _ => 0))] ++ [(q67, aI K 6 (fun _ => 0))] ++ [(q76, aI K 484 (fun _ => 0))]) H := hP
  have hD : va_D A ([(h, .inr (6, [.ref q8, .ref q17, .ref q26, .int (0 : Int32), .ref q35, .ref q42, .ref q50, .int (0 : Int32), .int (0 : Int32), .ref q59, .ref q67, .null, .int (0 : Int32), .int (0 : Int32)]))] ++ [(q8, aI K 190 (fun _ => 0))] ++ [(q17, aI K 190 (fun _ => 0))] ++ [(q26, aI K 2660 (fun _ => 0))] ++ [(q35, aI K 380 (fun _ => 0))] ++ [(q42, aZ K 2 (fun _ => 0))] ++ [(q50, aI K 120 (fun _ => 0))] ++ [(q59, aI K 1024 (fun _ => 0))] ++ [(q67, aI K 6 (fun _ => 0))] ++ [(q76, aI K 484 (fun _ => 0))]) := hD
  refine va_putF (ci := 6) (v := .ref q76) (ty := (tyX6 11)) (C := RX6) (T := TX6) (N := 14) hx hb hts hi6 tyX6 tyX6_ok nmX6 hown hK hP hD hS 0 rfl rfl 11 (by decide) lk35 (fun _ h9 => h9) rfl hname rfl (by decide +kernel) rfl rfl (Nat.le_of_ble_eq_true rfl) dX6_init_78 (fun H locs hP hD hS => ?_)
  have hP : va_P K.1 vwCl ([(h, .inr (6, [.ref q8, .ref q17, .ref q26, .int (0 : Int32), .ref q35, .ref q42, .ref q50, .int (0 : Int32), .int (0 : Int32), .ref q59, .ref q67, .ref q76, .int (0 : Int32), .int (0 : Int32)]))] ++ [(q8, aI K 190 (fun _ => 0))] ++ [(q17, aI K 190 (fun _ => 0))] ++ [(q26, aI K 2660 (fun _ => 0))] ++ [(q35, aI K 380 (fun _ => 0))] ++ [(q42, aZ K 2 (fun _ => 0))] ++ [(q50, aI K 120 (fun _ => 0))] ++ [(q59, aI K 1024 (fun _ => 0))] ++ [(q67, aI K 6 (fun _ => 0))] ++ [(q76, aI K 484 (fun _ => 0))]) H := hP
  have hD : va_D A ([(h, .inr (6, [.ref q8, .ref q17, .ref q26, .int (0 : Int32), .ref q35, .ref q42, .ref q50, .int (0 : Int32), .int (0 : Int32), .ref q59, .ref q67, .ref q76, .int (0 : Int32), .int (0 : Int32)]))] ++ [(q8, aI K 190 (fun _ => 0))] ++ [(q17, aI K 190 (fun _ => 0))] ++ [(q26, aI K 2660 (fun _ => 0))] ++ [(q35, aI K 380 (fun _ => 0))] ++ [(q42, aZ K 2 (fun _ => 0))] ++ [(q50, aI K 120 (fun _ => 0))] ++ [(q59, aI K 1024 (fun _ => 0))] ++ [(q67, aI K 6 (fun _ => 0))] ++ [(q76, aI K 484 (fun _ => 0))]) := hD
  have hP : va_P K.1 vwCl (mw K h (aLs [q8, q17, q26, 0, q35, q42, q50, 0, 0, q59, q67, q76]) hZr) H := hP
  have hD : va_D A (mw K h (aLs [q8, q17, q26, 0, q35, q42, q50, 0, 0, q59, q67, q76]) hZr) := hD
  refine lv_aload_n hx hb dX6_init_81 rfl (lv_at hl 0 rfl) ?_
  refine va_get (ci := 6) (v := .ref ((aLs [q8, q17, q26, 0, q35, q42, q50, 0, 0, q59, q67, q76]) 0)) (C := RX6) (T := TX6) (N := 14) hx hb hts hi6 hown hK hP 0 rfl rfl 0 (by decide) lk7 (fun _ h9 => h9) rfl dX6_init_82 ?_
  refine xw_Sv (As := [.ref ((aLs [q8, q17, q26, 0, q35, q42, q50, 0, 0, q59, q67, q76]) 0)]) (rest := []) (wc := [(((aLs [q8, q17, q26, 0, q35, q42, q50, 0, 0, q59, q67, q76]) 0), aI K 190 (hZr 0))]) (wr := (List.filterMap (fun i => (mw K h (aLs [q8, q17, q26, 0, q35, q42, q50, 0, 0, q59, q67, q76]) hZr : va_W)[i]?) ([0, 2, 3, 4, 5, 6, 7, 8, 9] : List Nat))) ⟨hx, hb, hml, hown, hts⟩ (c_X6_begins l K ((aLs [q8, q17, q26, 0, q35, q42, q50, 0, 0, q59, q67, q76]) 0) (hZr 0) H.size) (va_cwS 1 hts gX6_init_X6_begins rfl rfl rfl (by decide +kernel) ⟨Nat.le_of_ble_eq_true rfl, Nat.le_of_ble_eq_true rfl⟩) hK hP hD hS hA [1] [0, 2, 3, 4, 5, 6, 7, 8, 9] [0, 9, 1, 2, 3, 4, 5, 6, 7, 8] rfl rfl rfl (fun _u => mw K h (aLs [q8, q17, q26, 0, q35, q42, q50, 0, 0, q59, q67, q76]) (hrow hZr 0 mEmp)) (fun _ => rfl) rfl hl.1 rfl (Nat.le_of_ble_eq_true rfl) (Nat.le_of_ble_eq_true rfl) (Nat.le_of_ble_eq_true rfl) dX6_init_85 (fun _ H locs hq85 hP hD hS => ?_)
  have hP : va_P K.1 vwCl (mw K h (aLs [q8, q17, q26, 0, q35, q42, q50, 0, 0, q59, q67, q76]) (hrow hZr 0 mEmp)) H := hP
  have hD : va_D A (mw K h (aLs [q8, q17, q26, 0, q35, q42, q50, 0, 0, q59, q67, q76]) (hrow hZr 0 mEmp)) := hD
  exact hend _ _ _ _ _ _ (aLs [q8, q17, q26, 0, q35, q42, q50, 0, 0, q59, q67, q76]) hP hD hS (Nat.le_of_ble_eq_true rfl) (Nat.le_of_ble_eq_true rfl) trivial dX6_init_88

def kAppendM (L : Nat) (v : Int32) : Nat := if ¬ inR v 0 255 then 1 else if L = 120 then 2 else 0
theorem app_k {L : Nat} {v : Int32} (h : L ≤ 120) : kAppendM L v = kAppend L v := by
  unfold kAppendM kAppend
  by_cases c : inR v 0 255
  · rw [if_neg (show ¬ ¬ inR v 0 255 from fun z => z c), if_neg (show ¬ ¬ inR v 0 255 from fun z => z c)]
    by_cases d : L = 120
    · rw [if_pos d, if_pos (show 120 ≤ L by omega)]
    · rw [if_neg d, if_neg (show ¬ 120 ≤ L by omega)]
  · rw [if_pos c, if_pos c]

abbrev rm_X6_append : Room := { frames := 1, cells := 0, slots := 0, locals := 22 }
set_option maxHeartbeats 4000000 in
set_option maxRecDepth 100000 in
theorem c_X6_append (l : Launch) (K : KX) (h : Nat) (a : Nat → Nat) (M : HV) (v : Int32) (L : Nat) (hL0 : M 7 0 = nI L) (hL0b : L ≤ 120) (sz : Nat) : Met l yX6_append wsX6_append rm_X6_append (va_Pc [.ref h, .int v] (xPre K (mw K h a M) sz)) (va_Qi (fun (r9 : Int32) (_u : Unit) => kAppendM L v = 0 → r9 = nI (L + 1)) (fun _u t => xPost K (va_A (mw K h a M) sz) (mw K h a (hput (hput (hrow M 6 (if kAppendM L v = 0 then upd (M 6) L v else M 6)) 7 (if kAppendM L v = 0 then nI (L + 1) else M 7 0)) 8 (nI (kAppendM L v)))) t) (va_A (mw K h a M) sz)) 0 0 (va_A (mw K h a M) sz) := by
  refine xw_starti (cc := cX6_append) (maxL := 2) (by decide) rfl (Nat.le_of_ble_eq_true rfl) ?_
  intro p9 e9 s9 m9 below9 meth9 c9 H locs ls A av9 Q9 hx hb hlocks hml hname hts hown hK hP hD hS hA hsz hend hl
  have hown : s9.vm.findClass RX6 = some m9.cls := hown
  have hl : lv_has ls 2 [(0, .ref h), (1, .int v)] := hl
  have hi6 : ∀ w ∈ u_ws RX6 TX6 14, w ∈ wsX6_append := by decide +kernel
  have lk42 := hts (.fieldLink RX6 42 "StandInsModel" "thrown" "I") (by decide +kernel)
  have lk97 := hts (.fieldLink RX6 97 "StandInsModel" "typed" "I") (by decide +kernel)
  have lk26 := hts (.fieldLink RX6 26 "StandInsModel" "text" "[I") (by decide +kernel)
  refine lv_aload_n hx hb dX6_append_0 rfl (lv_at hl 0 rfl) ?_
  refine lv_iconst (v := (0 : Int32)) hx hb dX6_append_1 (by decide) ?_
  refine va_put (ci := 6) (v := .int (0 : Int32)) (ty := .int) (C := RX6) (T := TX6) (N := 14) hx hb hts hi6 tyX6 tyX6_ok nmX6 hown hK hP hD hS 0 rfl rfl 8 (by decide) lk42 (fun _ h9 => h9) rfl (by decide +kernel) rfl rfl (Nat.le_of_ble_eq_true rfl) dX6_append_2 (fun H locs hP hD hS => ?_)
  have hP : va_P K.1 vwCl (mw K h a (hput M 8 (0 : Int32))) H := hP
  have hD : va_D A (mw K h a (hput M 8 (0 : Int32))) := hD
  refine lv_iload_n hx hb dX6_append_5 rfl (lv_at hl 1 rfl) ?_
  refine lv_iconst (v := (0 : Int32)) hx hb dX6_append_6 (by decide) ?_
  refine lv_sipush (v := (255 : Int32)) hx hb dX6_append_7 (by decide) ?_
  have hPc := P_sub (ws' := []) hP [] rfl
  refine xr_S (As := [.int v, .int (0 : Int32), .int (255 : Int32)]) (rest := []) ⟨hx, hb, hml, hown, hts⟩ (c_X6_in l K v (0 : Int32) (255 : Int32)) (va_cwS 3 hts gX6_append_X6_in rfl rfl rfl (by decide +kernel) ⟨Nat.le_of_ble_eq_true rfl, Nat.le_of_ble_eq_true rfl⟩) hK hPc rfl hl.1 rfl (Nat.le_of_ble_eq_true rfl) (Nat.le_of_ble_eq_true rfl) (Nat.le_of_ble_eq_true rfl) dX6_append_10 ?_
  refine xb_if_ne (tgt := 22) hx hb dX6_append_13 (by decide) (fun c_13 => ?_) (fun c_13 => ?_)
  · skip
    have hn1 := rng_cN (lo := 0) (hi := 255) c_13 (by decide)
    refine lv_aload_n hx hb dX6_append_22 rfl (lv_at hl 0 rfl) ?_
    refine va_get (ci := 6) (v := .int (M 7 0)) (C := RX6) (T := TX6) (N := 14) hx hb hts hi6 hown hK hP 0 rfl rfl 7 (by decide) lk97 (fun _ h9 => h9) rfl dX6_append_23 ?_
    refine lv_bipush (v := (120 : Int32)) hx hb dX6_append_26 (by decide) ?_
    refine xn_icmp_ne (tgt := 37) hx hb L 120 hL0 rfl (by omega) (by decide) dX6_append_28 (by decide) (fun c_28 => ?_) (fun c_28 => ?_)
    · skip
      refine lv_aload_n hx hb dX6_append_37 rfl (lv_at hl 0 rfl) ?_
      refine va_get (ci := 6) (v := .ref (a 6)) (C := RX6) (T := TX6) (N := 14) hx hb hts hi6 hown hK hP 0 rfl rfl 6 (by decide) lk26 (fun _ h9 => h9) rfl dX6_append_38 ?_
      refine lv_aload_n hx hb dX6_append_41 rfl (lv_at hl 0 rfl) ?_
      refine va_get (ci := 6) (v := .int (M 7 0)) (C := RX6) (T := TX6) (N := 14) hx hb hts hi6 hown hK hP 0 rfl rfl 7 (by decide) lk97 (fun _ h9 => h9) rfl dX6_append_42 ?_
      refine lv_iload_n hx hb dX6_append_45 rfl (lv_at hl 1 rfl) ?_
      refine xi_st hx hb hK hP hD hS 6 (f := M 6) rfl L hL0 (by omega) (by decide) (mw K h a (hput (hrow M 6 (upd (M 6) L v)) 8 (0 : Int32))) rfl dX6_append_46 (fun H locs hP hD hS => ?_)
      refine lv_aload_n hx hb dX6_append_47 rfl (lv_at hl 0 rfl) ?_
      refine lv_dup hx hb dX6_append_48 rfl ?_
      refine va_get (ci := 6) (v := .int (M 7 0)) (C := RX6) (T := TX6) (N := 14) hx hb hts hi6 hown hK hP 0 rfl rfl 7 (by decide) lk97 (fun _ h9 => h9) rfl dX6_append_49 ?_
      refine lv_iconst (v := (1 : Int32)) hx hb dX6_append_52 (by decide) ?_
      refine lv_iadd hx hb dX6_append_53 ?_
      rw [show (M 7 0) + (1 : Int32) = nI (L + 1) from (nn_add hL0 rfl)]
      refine va_put (ci := 6) (v := .int (nI (L + 1))) (ty := .int) (C := RX6) (T := TX6) (N := 14) hx hb hts hi6 tyX6 tyX6_ok nmX6 hown hK hP hD hS 0 rfl rfl 7 (by decide) lk97 (fun _ h9 => h9) rfl (by decide +kernel) rfl rfl (Nat.le_of_ble_eq_true rfl) dX6_append_54 (fun H locs hP hD hS => ?_)
      have hP : va_P K.1 vwCl (mw K h a (hput (hput (hrow M 6 (upd (M 6) L v)) 7 (nI (L + 1))) 8 (0 : Int32))) H := hP
      have hD : va_D A (mw K h a (hput (hput (hrow M 6 (upd (M 6) L v)) 7 (nI (L + 1))) 8 (0 : Int32))) := hD
      refine lv_aload_n hx hb dX6_append_57 rfl (lv_at hl 0 rfl) ?_
      refine va_get (ci := 6) (v := .int (nI (L + 1))) (C := RX6) (T := TX6) (N := 14) hx hb hts hi6 hown hK hP 0 rfl rfl 7 (by decide) lk97 (fun _ h9 => h9) rfl dX6_append_58 ?_
      have eR2 : (upd (M 6) L v) = if kAppendM L v = 0 then upd (M 6) L v else M 6 := by first | exact (if_pos (show kAppendM L v = 0 from (by simp [kAppendM, c_13, c_28]; done))).symm | exact (if_neg (show ¬ kAppendM L v = 0 from (by simp [kAppendM, c_13, c_28]; done))).symm | rw [if_pos (show kAppendM L v = 0 from (by simp [kAppendM, c_13, c_28]; done))] | rw [if_neg (show ¬ kAppendM L v = 0 from (by simp [kAppendM, c_13, c_28]; done))]
      have hP : va_P K.1 vwCl (mw K h a (hput (hput (hrow M 6 (if kAppendM L v = 0 then upd (M 6) L v else M 6)) 7 (nI (L + 1))) 8 (0 : Int32))) H := by rw [← eR2]; exact hP
      have hD : va_D A (mw K h a (hput (hput (hrow M 6 (if kAppendM L v = 0 then upd (M 6) L v else M 6)) 7 (nI (L + 1))) 8 (0 : Int32))) := by rw [← eR2]; exact hD
      have eR3 : (nI (L + 1)) = if kAppendM L v = 0 then nI (L + 1) else M 7 0 := by first | (rw [if_pos (show kAppendM L v = 0 from (by simp [kAppendM, c_13, c_28]; done)), hL0, nI_1]; done) | exact (if_neg (show ¬ kAppendM L v = 0 from (by simp [kAppendM, c_13, c_28]; done))).symm | exact (if_pos (show kAppendM L v = 0 from (by simp [kAppendM, c_13, c_28]; done))).symm
      have hP : va_P K.1 vwCl (mw K h a (hput (hput (hrow M 6 (if kAppendM L v = 0 then upd (M 6) L v else M 6)) 7 (if kAppendM L v = 0 then nI (L + 1) else M 7 0)) 8 (0 : Int32))) H := by rw [← eR3]; exact hP
      have hD : va_D A (mw K h a (hput (hput (hrow M 6 (if kAppendM L v = 0 then upd (M 6) L v else M 6)) 7 (if kAppendM L v = 0 then nI (L + 1) else M 7 0)) 8 (0 : Int32))) := by rw [← eR3]; exact hD
      have eR4 : (0 : Int32) = nI (kAppendM L v) := by exact (congrArg nI (show kAppendM L v = _ from (by simp [kAppendM, c_13, c_28]; done))).symm
      have hP : va_P K.1 vwCl (mw K h a (hput (hput (hrow M 6 (if kAppendM L v = 0 then upd (M 6) L v else M 6)) 7 (if kAppendM L v = 0 then nI (L + 1) else M 7 0)) 8 (nI (kAppendM L v)))) H := by rw [← eR4]; exact hP
      have hD : va_D A (mw K h a (hput (hput (hrow M 6 (if kAppendM L v = 0 then upd (M 6) L v else M 6)) 7 (if kAppendM L v = 0 then nI (L + 1) else M 7 0)) 8 (nI (kAppendM L v)))) := by rw [← eR4]; exact hD
      exact hend _ _ _ _ _ _ _ () hP hD hS (Nat.le_of_ble_eq_true rfl) (Nat.le_of_ble_eq_true rfl) (by first | (intro hk9; first | rfl | (rw [hL0, nI_1]); done) | (intro hk9; simp [kAppendM, c_13, c_28] at hk9; done)) dX6_append_61
    · skip
      refine lv_aload_n hx hb dX6_append_31 rfl (lv_at hl 0 rfl) ?_
      refine lv_iconst (v := (2 : Int32)) hx hb dX6_append_32 (by decide) ?_
      refine xw_Vi (As := [.int (2 : Int32)]) (rest := []) (wc := mw K h a (hput M 8 (0 : Int32))) (wr := (List.filterMap (fun i => (mw K h a (hput M 8 (0 : Int32)) : va_W)[i]?) ([] : List Nat))) ⟨hx, hb, hml, hown, hts⟩ (c_X6_fails l K h a (hput M 8 (0 : Int32)) (2 : Int32) H.size) (cwV 1 hts gX6_append_X6_fails rfl rfl rfl (by decide +kernel) ⟨Nat.le_of_ble_eq_true rfl, Nat.le_of_ble_eq_true rfl⟩) hK hP hD hS hA [0, 1, 2, 3, 4, 5, 6, 7, 8, 9] [] [0, 1, 2, 3, 4, 5, 6, 7, 8, 9] rfl rfl rfl (fun _u => mw K h a (hput M 8 (2 : Int32))) (fun _ => rfl) 0 6 rfl rfl rfl rfl hl.1 rfl (Nat.le_of_ble_eq_true rfl) (Nat.le_of_ble_eq_true rfl) (Nat.le_of_ble_eq_true rfl) dX6_append_33 (fun r33 _ H locs hq33 hP hD hS => ?_)
      have hP : va_P K.1 vwCl (mw K h a (hput M 8 (2 : Int32))) H := hP
      have hD : va_D A (mw K h a (hput M 8 (2 : Int32))) := hD
      subst hq33
      have hP : va_P K.1 vwCl (mw K h a (hput (hrow M 6 (M 6)) 8 (2 : Int32))) H := hP
      have hD : va_D A (mw K h a (hput (hrow M 6 (M 6)) 8 (2 : Int32))) := hD
      have eR5 : (M 6) = if kAppendM L v = 0 then upd (M 6) L v else M 6 := by first | exact (if_pos (show kAppendM L v = 0 from (by simp [kAppendM, c_13, c_28]; done))).symm | exact (if_neg (show ¬ kAppendM L v = 0 from (by simp [kAppendM, c_13, c_28]; done))).symm | rw [if_pos (show kAppendM L v = 0 from (by simp [kAppendM, c_13, c_28]; done))] | rw [if_neg (show ¬ kAppendM L v = 0 from (by simp [kAppendM, c_13, c_28]; done))]
      have hP : va_P K.1 vwCl (mw K h a (hput (hrow M 6 (if kAppendM L v = 0 then upd (M 6) L v else M 6)) 8 (2 : Int32))) H := by rw [← eR5]; exact hP
      have hD : va_D A (mw K h a (hput (hrow M 6 (if kAppendM L v = 0 then upd (M 6) L v else M 6)) 8 (2 : Int32))) := by rw [← eR5]; exact hD
      have hP : va_P K.1 vwCl (mw K h a (hput (hput (hrow M 6 (if kAppendM L v = 0 then upd (M 6) L v else M 6)) 7 ((M 7) 0)) 8 (2 : Int32))) H := hP
      have hD : va_D A (mw K h a (hput (hput (hrow M 6 (if kAppendM L v = 0 then upd (M 6) L v else M 6)) 7 ((M 7) 0)) 8 (2 : Int32))) := hD
      have eR6 : ((M 7) 0) = if kAppendM L v = 0 then nI (L + 1) else M 7 0 := by first | (rw [if_pos (show kAppendM L v = 0 from (by simp [kAppendM, c_13, c_28]; done)), hL0, nI_1]; done) | exact (if_neg (show ¬ kAppendM L v = 0 from (by simp [kAppendM, c_13, c_28]; done))).symm | exact (if_pos (show kAppendM L v = 0 from (by simp [kAppendM, c_13, c_28]; done))).symm
      rw [eR6] at hP hD
      have eR7 : (2 : Int32) = nI (kAppendM L v) := by exact (congrArg nI (show kAppendM L v = _ from (by simp [kAppendM, c_13, c_28]; done))).symm
      have hP : va_P K.1 vwCl (mw K h a (hput (hput (hrow M 6 (if kAppendM L v = 0 then upd (M 6) L v else M 6)) 7 (if kAppendM L v = 0 then nI (L + 1) else M 7 0)) 8 (nI (kAppendM L v)))) H := by rw [← eR7]; exact hP
      have hD : va_D A (mw K h a (hput (hput (hrow M 6 (if kAppendM L v = 0 then upd (M 6) L v else M 6)) 7 (if kAppendM L v = 0 then nI (L + 1) else M 7 0)) 8 (nI (kAppendM L v)))) := by rw [← eR7]; exact hD
      exact hend _ _ _ _ _ _ _ () hP hD hS (Nat.le_of_ble_eq_true rfl) (Nat.le_of_ble_eq_true rfl) (by first | (intro hk9; first | rfl | (rw [hL0, nI_1]); done) | (intro hk9; simp [kAppendM, c_13, c_28] at hk9; done)) dX6_append_36
  · skip
    refine lv_aload_n hx hb dX6_append_16 rfl (lv_at hl 0 rfl) ?_
    refine lv_iconst (v := (1 : Int32)) hx hb dX6_append_17 (by decide) ?_
    refine xw_Vi (As := [.int (1 : Int32)]) (rest := []) (wc := mw K h a (hput M 8 (0 : Int32))) (wr := (List.filterMap (fun i => (mw K h a (hput M 8 (0 : Int32)) : va_W)[i]?) ([] : List Nat))) ⟨hx, hb, hml, hown, hts⟩ (c_X6_fails l K h a (hput M 8 (0 : Int32)) (1 : Int32) H.size) (cwV 1 hts gX6_append_X6_fails rfl rfl rfl (by decide +kernel) ⟨Nat.le_of_ble_eq_true rfl, Nat.le_of_ble_eq_true rfl⟩) hK hP hD hS hA [0, 1, 2, 3, 4, 5, 6, 7, 8, 9] [] [0, 1, 2, 3, 4, 5, 6, 7, 8, 9] rfl rfl rfl (fun _u => mw K h a (hput M 8 (1 : Int32))) (fun _ => rfl) 0 6 rfl rfl rfl rfl hl.1 rfl (Nat.le_of_ble_eq_true rfl) (Nat.le_of_ble_eq_true rfl) (Nat.le_of_ble_eq_true rfl) dX6_append_18 (fun r18 _ H locs hq18 hP hD hS => ?_)
    have hP : va_P K.1 vwCl (mw K h a (hput M 8 (1 : Int32))) H := hP
    have hD : va_D A (mw K h a (hput M 8 (1 : Int32))) := hD
    subst hq18
    have hP : va_P K.1 vwCl (mw K h a (hput (hrow M 6 (M 6)) 8 (1 : Int32))) H := hP
    have hD : va_D A (mw K h a (hput (hrow M 6 (M 6)) 8 (1 : Int32))) := hD
    have eR8 : (M 6) = if kAppendM L v = 0 then upd (M 6) L v else M 6 := by first | exact (if_pos (show kAppendM L v = 0 from (by simp [kAppendM, c_13]; done))).symm | exact (if_neg (show ¬ kAppendM L v = 0 from (by simp [kAppendM, c_13]; done))).symm | rw [if_pos (show kAppendM L v = 0 from (by simp [kAppendM, c_13]; done))] | rw [if_neg (show ¬ kAppendM L v = 0 from (by simp [kAppendM, c_13]; done))]
    have hP : va_P K.1 vwCl (mw K h a (hput (hrow M 6 (if kAppendM L v = 0 then upd (M 6) L v else M 6)) 8 (1 : Int32))) H := by rw [← eR8]; exact hP
    have hD : va_D A (mw K h a (hput (hrow M 6 (if kAppendM L v = 0 then upd (M 6) L v else M 6)) 8 (1 : Int32))) := by rw [← eR8]; exact hD
    have hP : va_P K.1 vwCl (mw K h a (hput (hput (hrow M 6 (if kAppendM L v = 0 then upd (M 6) L v else M 6)) 7 ((M 7) 0)) 8 (1 : Int32))) H := hP
    have hD : va_D A (mw K h a (hput (hput (hrow M 6 (if kAppendM L v = 0 then upd (M 6) L v else M 6)) 7 ((M 7) 0)) 8 (1 : Int32))) := hD
    have eR9 : ((M 7) 0) = if kAppendM L v = 0 then nI (L + 1) else M 7 0 := by first | (rw [if_pos (show kAppendM L v = 0 from (by simp [kAppendM, c_13]; done)), hL0, nI_1]; done) | exact (if_neg (show ¬ kAppendM L v = 0 from (by simp [kAppendM, c_13]; done))).symm | exact (if_pos (show kAppendM L v = 0 from (by simp [kAppendM, c_13]; done))).symm
    rw [eR9] at hP hD
    have eR10 : (1 : Int32) = nI (kAppendM L v) := by exact (congrArg nI (show kAppendM L v = _ from (by simp [kAppendM, c_13]; done))).symm
    have hP : va_P K.1 vwCl (mw K h a (hput (hput (hrow M 6 (if kAppendM L v = 0 then upd (M 6) L v else M 6)) 7 (if kAppendM L v = 0 then nI (L + 1) else M 7 0)) 8 (nI (kAppendM L v)))) H := by rw [← eR10]; exact hP
    have hD : va_D A (mw K h a (hput (hput (hrow M 6 (if kAppendM L v = 0 then upd (M 6) L v else M 6)) 7 (if kAppendM L v = 0 then nI (L + 1) else M 7 0)) 8 (nI (kAppendM L v)))) := by rw [← eR10]; exact hD
    exact hend _ _ _ _ _ _ _ () hP hD hS (Nat.le_of_ble_eq_true rfl) (Nat.le_of_ble_eq_true rfl) (by first | (intro hk9; first | rfl | (rw [hL0, nI_1]); done) | (intro hk9; simp [kAppendM, c_13] at hk9; done)) dX6_append_21

abbrev rm_X6_clearText : Room := { frames := 0, cells := 0, slots := 0, locals := 0 }
set_option maxHeartbeats 4000000 in
set_option maxRecDepth 100000 in
theorem c_X6_clearText (l : Launch) (K : KX) (h : Nat) (a : Nat → Nat) (M : HV) (sz : Nat) : Met l yX6_clearText wsX6_clearText rm_X6_clearText (va_Pc [.ref h] (xPre K (mw K h a M) sz)) (va_Qi (fun (r9 : Int32) (_u : Unit) => r9 = M 7 0) (fun _u t => xPost K (va_A (mw K h a M) sz) (mw K h a (hput (hput M 7 0) 8 0)) t) (va_A (mw K h a M) sz)) 0 0 (va_A (mw K h a M) sz) := by
  refine xw_starti (cc := cX6_clearText) (maxL := 2) (by decide) rfl (Nat.le_of_ble_eq_true rfl) ?_
  intro p9 e9 s9 m9 below9 meth9 c9 H locs ls A av9 Q9 hx hb hlocks hml hname hts hown hK hP hD hS hA hsz hend hl
  have hown : s9.vm.findClass RX6 = some m9.cls := hown
  have hl : lv_has ls 2 [(0, .ref h)] := hl
  have hi6 : ∀ w ∈ u_ws RX6 TX6 14, w ∈ wsX6_clearText := by decide +kernel
  have lk42 := hts (.fieldLink RX6 42 "StandInsModel" "thrown" "I") (by decide +kernel)
  have lk97 := hts (.fieldLink RX6 97 "StandInsModel" "typed" "I") (by decide +kernel)
  refine lv_aload_n hx hb dX6_clearText_0 rfl (lv_at hl 0 rfl) ?_
  refine lv_iconst (v := (0 : Int32)) hx hb dX6_clearText_1 (by decide) ?_
  refine va_put (ci := 6) (v := .int (0 : Int32)) (ty := .int) (C := RX6) (T := TX6) (N := 14) hx hb hts hi6 tyX6 tyX6_ok nmX6 hown hK hP hD hS 0 rfl rfl 8 (by decide) lk42 (fun _ h9 => h9) rfl (by decide +kernel) rfl rfl (Nat.le_of_ble_eq_true rfl) dX6_clearText_2 (fun H locs hP hD hS => ?_)
  have hP : va_P K.1 vwCl (mw K h a (hput M 8 (0 : Int32))) H := hP
  have hD : va_D A (mw K h a (hput M 8 (0 : Int32))) := hD
  refine lv_aload_n hx hb dX6_clearText_5 rfl (lv_at hl 0 rfl) ?_
  refine va_get (ci := 6) (v := .int (M 7 0)) (C := RX6) (T := TX6) (N := 14) hx hb hts hi6 hown hK hP 0 rfl rfl 7 (by decide) lk97 (fun _ h9 => h9) rfl dX6_clearText_6 ?_
  refine lv_istore_n (lv' := [(1, .int (M 7 0)), (0, .ref h)]) hx hb dX6_clearText_9 rfl hl (by decide) rfl (fun ls hl => ?_)
  refine lv_aload_n hx hb dX6_clearText_10 rfl (lv_at hl 1 rfl) ?_
  refine lv_iconst (v := (0 : Int32)) hx hb dX6_clearText_11 (by decide) ?_
  refine va_put (ci := 6) (v := .int (0 : Int32)) (ty := .int) (C := RX6) (T := TX6) (N := 14) hx hb hts hi6 tyX6 tyX6_ok nmX6 hown hK hP hD hS 0 rfl rfl 7 (by decide) lk97 (fun _ h9 => h9) rfl (by decide +kernel) rfl rfl (Nat.le_of_ble_eq_true rfl) dX6_clearText_12 (fun H locs hP hD hS => ?_)
  have hP : va_P K.1 vwCl (mw K h a (hput (hput M 7 (0 : Int32)) 8 (0 : Int32))) H := hP
  have hD : va_D A (mw K h a (hput (hput M 7 (0 : Int32)) 8 (0 : Int32))) := hD
  refine lv_iload_n hx hb dX6_clearText_15 rfl (lv_at hl 0 rfl) ?_
  have eR1 : (0 : Int32) = 0 := by first | rfl | (simp; done) | omega
  have hP : va_P K.1 vwCl (mw K h a (hput (hput M 7 0) 8 (0 : Int32))) H := by rw [← eR1]; exact hP
  have hD : va_D A (mw K h a (hput (hput M 7 0) 8 (0 : Int32))) := by rw [← eR1]; exact hD
  have eR2 : (0 : Int32) = 0 := by first | rfl | (simp; done) | omega
  have hP : va_P K.1 vwCl (mw K h a (hput (hput M 7 0) 8 0)) H := by rw [← eR2]; exact hP
  have hD : va_D A (mw K h a (hput (hput M 7 0) 8 0)) := by rw [← eR2]; exact hD
  exact hend _ _ _ _ _ _ _ () hP hD hS (Nat.le_of_ble_eq_true rfl) (Nat.le_of_ble_eq_true rfl) (by rfl) dX6_clearText_16

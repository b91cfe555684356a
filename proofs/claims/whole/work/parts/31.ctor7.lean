abbrev rmX7_init : Room := { frames := 1, cells := 10, slots := 20976, locals := 20 }
set_option maxHeartbeats 8000000 in
set_option maxRecDepth 100000 in
theorem c_X7_init (l : Launch) (D : va_G) (cB cI cZ : ClassId) (h : Nat) : CtN l yX7_init wsX7_init rmX7_init D (tyv cB cI cZ) [.ref h] [(h, .inr (6, [.null, .null, .null, .null, .int 0, .null, .int 0, .int 0, .int 0, .int 0, .int 0, .int 0, .int 0, .int 0, .int 0, .int 0, .int 0, .int 0, .int 0, .int 0, .null, .int 0, .int 0, .int 0, .int 0, .null, .int 0, .null, .null, .null, .int 0, .int 0]))] (fun u : Nat × Nat × Nat × Nat × Nat × Nat × Nat × Nat × Nat × Nat × (Nat → Int32) × (Nat → Int32) × (Nat → Int32) => (∀ j, j < 64 → u.2.2.2.2.2.2.2.2.2.2.1 j = k_six.getD j 0) ∧ (∀ j, j < 16 → u.2.2.2.2.2.2.2.2.2.2.2.1 j = k_four.getD j 0) ∧ (∀ j, j < 16 → u.2.2.2.2.2.2.2.2.2.2.2.2 j = k_sgf.getD j 0)) (fun u : Nat × Nat × Nat × Nat × Nat × Nat × Nat × Nat × Nat × Nat × (Nat → Int32) × (Nat → Int32) × (Nat → Int32) => [(h, .inr (6, [.ref u.1, .ref u.2.1, .ref u.2.2.1, .ref u.2.2.2.1, .int 0, .ref u.2.2.2.2.1, .int 0, .int (-1), .int 0, .int (-1), .int 0, .int 0, .int 0, .int 0, .int 0, .int 0, .int 0, .int 0, .int 0, .int 0, .ref u.2.2.2.2.2.1, .int 0, .int 0, .int 0, .int 0, .ref u.2.2.2.2.2.2.1, .int 0, .ref u.2.2.2.2.2.2.2.1, .ref u.2.2.2.2.2.2.2.2.1, .ref u.2.2.2.2.2.2.2.2.2.1, .int 0, .int 0])), (u.1, .inl (cI, 64, .inl u.2.2.2.2.2.2.2.2.2.2.1)), (u.2.1, .inl (cI, 16, .inl u.2.2.2.2.2.2.2.2.2.2.2.1)), (u.2.2.1, .inl (cI, 16, .inl u.2.2.2.2.2.2.2.2.2.2.2.2)), (u.2.2.2.1, .inl (cB, 8000, .inl (fun _ => 0))), (u.2.2.2.2.1, .inl (cB, 400, .inl (fun _ => 0))), (u.2.2.2.2.2.1, .inl (cI, 100, .inl (fun _ => 0))), (u.2.2.2.2.2.2.1, .inl (cB, 300, .inl (fun _ => 0))), (u.2.2.2.2.2.2.2.1, .inl (cI, 40, .inl (fun _ => 0))), (u.2.2.2.2.2.2.2.2.1, .inl (cZ, 40, .inl (fun _ => 0))), (u.2.2.2.2.2.2.2.2.2.1, .inl (cB, 12000, .inl (fun _ => 0)))]) 10 20976 := by
  refine CtN.of (cc := cX7_init) (maxL := 1) (ret := none) (by decide +kernel) rfl rfl (Nat.le_of_ble_eq_true rfl) ?_
  intro p e s m below meth c A ls hx hb hr hml hown hts hlocks hin hE hP hK hD hA hS hl
  have hown : s.vm.findClass RX7 = some m.cls := hown
  have hl : lv_has ls 1 [(0, .ref h)] := hl
  have hP : va_P D vwCl [(h, .inr (6, [.null, .null, .null, .null, .int 0, .null, .int 0, .int 0, .int 0, .int 0, .int 0, .int 0, .int 0, .int 0, .int 0, .int 0, .int 0, .int 0, .int 0, .int 0, .null, .int 0, .int 0, .int 0, .int 0, .null, .int 0, .null, .null, .null, .int 0, .int 0]))] s.heap := hP
  have hD : va_D A [(h, .inr (6, [.null, .null, .null, .null, .int 0, .null, .int 0, .int 0, .int 0, .int 0, .int 0, .int 0, .int 0, .int 0, .int 0, .int 0, .int 0, .int 0, .int 0, .int 0, .null, .int 0, .int 0, .int 0, .int 0, .null, .int 0, .null, .null, .null, .int 0, .int 0]))] := hD
  have hiX7 : ∀ w ∈ wsX70, w ∈ wsX7_init := by decide +kernel
  have k1 := hts (.methodLink RX7 1 objectInit) (by decide +kernel)
  have k13 := hts (.fieldLink RX7 13 "CodedGroupsModel" "four" "[I") (by decide +kernel)
  have k16 := hts (.fieldLink RX7 16 "CodedGroupsModel" "signFour" "[I") (by decide +kernel)
  have k19 := hts (.fieldLink RX7 19 "CodedGroupsModel" "line" "[B") (by decide +kernel)
  have k23 := hts (.fieldLink RX7 23 "CodedGroupsModel" "tape" "[B") (by decide +kernel)
  have k26 := hts (.fieldLink RX7 26 "CodedGroupsModel" "sendingDisparity" "I") (by decide +kernel)
  have k30 := hts (.fieldLink RX7 30 "CodedGroupsModel" "disparity" "I") (by decide +kernel)
  have k33 := hts (.fieldLink RX7 33 "CodedGroupsModel" "latest" "[I") (by decide +kernel)
  have k36 := hts (.fieldLink RX7 36 "CodedGroupsModel" "open" "[B") (by decide +kernel)
  have k39 := hts (.fieldLink RX7 39 "CodedGroupsModel" "lengths" "[I") (by decide +kernel)
  have k42 := hts (.fieldLink RX7 42 "CodedGroupsModel" "isWhole" "[Z") (by decide +kernel)
  have k46 := hts (.fieldLink RX7 46 "CodedGroupsModel" "frames" "[B") (by decide +kernel)
  have k49 := hts (.fieldLink RX7 49 "CodedGroupsModel" "size" "I") (by decide +kernel)
  have k7 := hts (.fieldLink RX7 7 "CodedGroupsModel" "six" "[I") (by decide +kernel)
  have ka_boolean := hts (.arrayClass .boolean) (by decide +kernel)
  have ka_byte := hts (.arrayClass .byte) (by decide +kernel)
  have ka_int := hts (.arrayClass .int) (by decide +kernel)
  have koi := hts (.instanceMethod objectInit) (by decide +kernel)
  refine lv_aload_n hx hb dX7_init_0 rfl (lv_at hl 0 rfl) ?_
  refine W.objInit hx hb hown k1 koi (hts (.code objectInit ⟨#[0xb1]⟩ 1 none) (List.mem_of_getElem? (i := 3) rfl)) rfl (by rw [hml]; exact hl.1) rfl dX7_init_1 (Nat.le_of_ble_eq_true rfl) (Nat.le_of_ble_eq_true rfl) ?_
  refine W.eq (g2 := F0 m 4 ls []) rfl ?_
  refine lv_aload_n hx hb dX7_init_4 rfl (lv_at hl 0 rfl) ?_
  refine lv_bipush (v := 64) hx hb dX7_init_5 (by decide) ?_
  refine knew_int hx hb ka_int hK hP hD hS hA (N := 64) (by decide) (by decide) (Nat.le_of_ble_eq_true rfl) (Nat.le_of_ble_eq_true rfl) (Nat.le_of_ble_eq_true rfl) dX7_init_7 (fun q_1 H hP hD hS => ?_)
  have hP : va_P D vwCl [(h, .inr (6, [.null, .null, .null, .null, .int 0, .null, .int 0, .int 0, .int 0, .int 0, .int 0, .int 0, .int 0, .int 0, .int 0, .int 0, .int 0, .int 0, .int 0, .int 0, .null, .int 0, .int 0, .int 0, .int 0, .null, .int 0, .null, .null, .null, .int 0, .int 0])), (q_1, .inl (cI, 64, .inl (fun _ => 0)))] H := hP
  have hD : va_D A [(h, .inr (6, [.null, .null, .null, .null, .int 0, .null, .int 0, .int 0, .int 0, .int 0, .int 0, .int 0, .int 0, .int 0, .int 0, .int 0, .int 0, .int 0, .int 0, .int 0, .null, .int 0, .int 0, .int 0, .int 0, .null, .int 0, .null, .null, .null, .int 0, .int 0])), (q_1, .inl (cI, 64, .inl (fun _ => 0)))] := hD
  refine W.widen (k := 1) (n := 64) (Nat.le_of_ble_eq_true rfl) (Nat.le_of_ble_eq_true rfl) ?_
  refine lv_dup hx hb dX7_init_9 rfl ?_
  refine lv_iconst (v := 0) hx hb dX7_init_10 (by decide) ?_
  refine lv_bipush (v := 39) hx hb dX7_init_11 (by decide) ?_
  have h_2 : vp_in 0 64 := vp_in_iff.mpr (by decide)
  refine va_iast hx hb hK hP hD hS 1 1 rfl rfl h_2 dX7_init_13 (fun H locs hP hD hS => ?_)
  have hs_2 := pre_zero k_six (0 : Int32) (39 : Int32) (fun _ => 0) rfl rfl
  generalize upd (fun _ => 0) (0 : Int32).toNatClampNeg 39 = g_2 at hP hD hs_2
  have hP : va_P D vwCl [(h, .inr (6, [.null, .null, .null, .null, .int 0, .null, .int 0, .int 0, .int 0, .int 0, .int 0, .int 0, .int 0, .int 0, .int 0, .int 0, .int 0, .int 0, .int 0, .int 0, .null, .int 0, .int 0, .int 0, .int 0, .null, .int 0, .null, .null, .null, .int 0, .int 0])), (q_1, .inl (cI, 64, .inl g_2))] H := hP
  have hD : va_D A [(h, .inr (6, [.null, .null, .null, .null, .int 0, .null, .int 0, .int 0, .int 0, .int 0, .int 0, .int 0, .int 0, .int 0, .int 0, .int 0, .int 0, .int 0, .int 0, .int 0, .null, .int 0, .int 0, .int 0, .int 0, .null, .int 0, .null, .null, .null, .int 0, .int 0])), (q_1, .inl (cI, 64, .inl g_2))] := hD
  refine lv_dup hx hb dX7_init_14 rfl ?_
  refine lv_iconst (v := 1) hx hb dX7_init_15 (by decide) ?_
  refine lv_bipush (v := 24) hx hb dX7_init_16 (by decide) ?_
  have h_3 : vp_in 1 64 := vp_in_iff.mpr (by decide)
  refine va_iast hx hb hK hP hD hS 1 1 rfl rfl h_3 dX7_init_18 (fun H locs hP hD hS => ?_)
  have hs_3 := pre_step (i := 1) hs_2 (1 : Int32) (24 : Int32) rfl rfl
  generalize upd g_2 (1 : Int32).toNatClampNeg 24 = g_3 at hP hD hs_3
  have hP : va_P D vwCl [(h, .inr (6, [.null, .null, .null, .null, .int 0, .null, .int 0, .int 0, .int 0, .int 0, .int 0, .int 0, .int 0, .int 0, .int 0, .int 0, .int 0, .int 0, .int 0, .int 0, .null, .int 0, .int 0, .int 0, .int 0, .null, .int 0, .null, .null, .null, .int 0, .int 0])), (q_1, .inl (cI, 64, .inl g_3))] H := hP
  have hD : va_D A [(h, .inr (6, [.null, .null, .null, .null, .int 0, .null, .int 0, .int 0, .int 0, .int 0, .int 0, .int 0, .int 0, .int 0, .int 0, .int 0, .int 0, .int 0, .int 0, .int 0, .null, .int 0, .int 0, .int 0, .int 0, .null, .int 0, .null, .null, .null, .int 0, .int 0])), (q_1, .inl (cI, 64, .inl g_3))] := hD
  refine lv_dup hx hb dX7_init_19 rfl ?_
  refine lv_iconst (v := 2) hx hb dX7_init_20 (by decide) ?_
  refine lv_bipush (v := 29) hx hb dX7_init_21 (by decide) ?_
  have h_4 : vp_in 2 64 := vp_in_iff.mpr (by decide)
  refine va_iast hx hb hK hP hD hS 1 1 rfl rfl h_4 dX7_init_23 (fun H locs hP hD hS => ?_)
  have hs_4 := pre_step (i := 2) hs_3 (2 : Int32) (29 : Int32) rfl rfl
  generalize upd g_3 (2 : Int32).toNatClampNeg 29 = g_4 at hP hD hs_4
  have hP : va_P D vwCl [(h, .inr (6, [.null, .null, .null, .null, .int 0, .null, .int 0, .int 0, .int 0, .int 0, .int 0, .int 0, .int 0, .int 0, .int 0, .int 0, .int 0, .int 0, .int 0, .int 0, .null, .int 0, .int 0, .int 0, .int 0, .null, .int 0, .null, .null, .null, .int 0, .int 0])), (q_1, .inl (cI, 64, .inl g_4))] H := hP
  have hD : va_D A [(h, .inr (6, [.null, .null, .null, .null, .int 0, .null, .int 0, .int 0, .int 0, .int 0, .int 0, .int 0, .int 0, .int 0, .int 0, .int 0, .int 0, .int 0, .int 0, .int 0, .null, .int 0, .int 0, .int 0, .int 0, .null, .int 0, .null, .null, .null, .int 0, .int 0])), (q_1, .inl (cI, 64, .inl g_4))] := hD
  refine lv_dup hx hb dX7_init_24 rfl ?_
  refine lv_iconst (v := 3) hx hb dX7_init_25 (by decide) ?_
  refine lv_bipush (v := 34) hx hb dX7_init_26 (by decide) ?_
  have h_5 : vp_in 3 64 := vp_in_iff.mpr (by decide)
  refine va_iast hx hb hK hP hD hS 1 1 rfl rfl h_5 dX7_init_28 (fun H locs hP hD hS => ?_)
  have hs_5 := pre_step (i := 3) hs_4 (3 : Int32) (34 : Int32) rfl rfl
  generalize upd g_4 (3 : Int32).toNatClampNeg 34 = g_5 at hP hD hs_5
  have hP : va_P D vwCl [(h, .inr (6, [.null, .null, .null, .null, .int 0, .null, .int 0, .int 0, .int 0, .int 0, .int 0, .int 0, .int 0, .int 0, .int 0, .int 0, .int 0, .int 0, .int 0, .int 0, .null, .int 0, .int 0, .int 0, .int 0, .null, .int 0, .null, .null, .null, .int 0, .int 0])), (q_1, .inl (cI, 64, .inl g_5))] H := hP
  have hD : va_D A [(h, .inr (6, [.null, .null, .null, .null, .int 0, .null, .int 0, .int 0, .int 0, .int 0, .int 0, .int 0, .int 0, .int 0, .int 0, .int 0, .int 0, .int 0, .int 0, .int 0, .null, .int 0, .int 0, .int 0, .int 0, .null, .int 0, .null, .null, .null, .int 0, .int 0])), (q_1, .inl (cI, 64, .inl g_5))] := hD
  refine lv_dup hx hb dX7_init_29 rfl ?_
  refine lv_iconst (v := 4) hx hb dX7_init_30 (by decide) ?_
  refine lv_bipush (v := 45) hx hb dX7_init_31 (by decide) ?_
  have h_6 : vp_in 4 64 := vp_in_iff.mpr (by decide)
  refine va_iast hx hb hK hP hD hS 1 1 rfl rfl h_6 dX7_init_33 (fun H locs hP hD hS => ?_)
  have hs_6 := pre_step (i := 4) hs_5 (4 : Int32) (45 : Int32) rfl rfl
  generalize upd g_5 (4 : Int32).toNatClampNeg 45 = g_6 at hP hD hs_6
  have hP : va_P D vwCl [(h, .inr (6, [.null, .null, .null, .null, .int 0, .null, .int 0, .int 0, .int 0, .int 0, .int 0, .int 0, .int 0, .int 0, .int 0, .int 0, .int 0, .int 0, .int 0, .int 0, .null, .int 0, .int 0, .int 0, .int 0, .null, .int 0, .null, .null, .null, .int 0, .int 0])), (q_1, .inl (cI, 64, .inl g_6))] H := hP
  have hD : va_D A [(h, .inr (6, [.null, .null, .null, .null, .int 0, .null, .int 0, .int 0, .int 0, .int 0, .int 0, .int 0, .int 0, .int 0, .int 0, .int 0, .int 0, .int 0, .int 0, .int 0, .null, .int 0, .int 0, .int 0, .int 0, .null, .int 0, .null, .null, .null, .int 0, .int 0])), (q_1, .inl (cI, 64, .inl g_6))] := hD
  refine lv_dup hx hb dX7_init_34 rfl ?_
  refine lv_iconst (v := 5) hx hb dX7_init_35 (by decide) ?_
  refine lv_bipush (v := 18) hx hb dX7_init_36 (by decide) ?_
  have h_7 : vp_in 5 64 := vp_in_iff.mpr (by decide)
  refine va_iast hx hb hK hP hD hS 1 1 rfl rfl h_7 dX7_init_38 (fun H locs hP hD hS => ?_)
  have hs_7 := pre_step (i := 5) hs_6 (5 : Int32) (18 : Int32) rfl rfl
  generalize upd g_6 (5 : Int32).toNatClampNeg 18 = g_7 at hP hD hs_7
  have hP : va_P D vwCl [(h, .inr (6, [.null, .null, .null, .null, .int 0, .null, .int 0, .int 0, .int 0, .int 0, .int 0, .int 0, .int 0, .int 0, .int 0, .int 0, .int 0, .int 0, .int 0, .int 0, .null, .int 0, .int 0, .int 0, .int 0, .null, .int 0, .null, .null, .null, .int 0, .int 0])), (q_1, .inl (cI, 64, .inl g_7))] H := hP
  have hD : va_D A [(h, .inr (6, [.null, .null, .null, .null, .int 0, .null, .int 0, .int 0, .int 0, .int 0, .int 0, .int 0, .int 0, .int 0, .int 0, .int 0, .int 0, .int 0, .int 0, .int 0, .null, .int 0, .int 0, .int 0, .int 0, .null, .int 0, .null, .null, .null, .int 0, .int 0])), (q_1, .inl (cI, 64, .inl g_7))] := hD
  refine lv_dup hx hb dX7_init_39 rfl ?_
  refine lv_bipush (v := 6) hx hb dX7_init_40 (by decide) ?_
  refine lv_bipush (v := 49) hx hb dX7_init_42 (by decide) ?_
  have h_8 : vp_in 6 64 := vp_in_iff.mpr (by decide)
  refine va_iast hx hb hK hP hD hS 1 1 rfl rfl h_8 dX7_init_44 (fun H locs hP hD hS => ?_)
  have hs_8 := pre_step (i := 6) hs_7 (6 : Int32) (49 : Int32) rfl rfl
  generalize upd g_7 (6 : Int32).toNatClampNeg 49 = g_8 at hP hD hs_8
  have hP : va_P D vwCl [(h, .inr (6, [.null, .null, .null, .null, .int 0, .null, .int 0, .int 0, .int 0, .int 0, .int 0, .int 0, .int 0, .int 0, .int 0, .int 0, .int 0, .int 0, .int 0, .int 0, .null, .int 0, .int 0, .int 0, .int 0, .null, .int 0, .null, .null, .null, .int 0, .int 0])), (q_1, .inl (cI, 64, .inl g_8))] H := hP
  have hD : va_D A [(h, .inr (6, [.null, .null, .null, .null, .int 0, .null, .int 0, .int 0, .int 0, .int 0, .int 0, .int 0, .int 0, .int 0, .int 0, .int 0, .int 0, .int 0, .int 0, .int 0, .null, .int 0, .int 0, .int 0, .int 0, .null, .int 0, .null, .null, .null, .int 0, .int 0])), (q_1, .inl (cI, 64, .inl g_8))] := hD
  refine lv_dup hx hb dX7_init_45 rfl ?_
  refine lv_bipush (v := 7) hx hb dX7_init_46 (by decide) ?_
  refine lv_bipush (v := 49) hx hb dX7_init_48 (by decide) ?_
  have h_9 : vp_in 7 64 := vp_in_iff.mpr (by decide)
  refine va_iast hx hb hK hP hD hS 1 1 rfl rfl h_9 dX7_init_50 (fun H locs hP hD hS => ?_)
  have hs_9 := pre_step (i := 7) hs_8 (7 : Int32) (49 : Int32) rfl rfl
  generalize upd g_8 (7 : Int32).toNatClampNeg 49 = g_9 at hP hD hs_9
  have hP : va_P D vwCl [(h, .inr (6, [.null, .null, .null, .null, .int 0, .null, .int 0, .int 0, .int 0, .int 0, .int 0, .int 0, .int 0, .int 0, .int 0, .int 0, .int 0, .int 0, .int 0, .int 0, .null, .int 0, .int 0, .int 0, .int 0, .null, .int 0, .null, .null, .null, .int 0, .int 0])), (q_1, .inl (cI, 64, .inl g_9))] H := hP
  have hD : va_D A [(h, .inr (6, [.null, .null, .null, .null, .int 0, .null, .int 0, .int 0, .int 0, .int 0, .int 0, .int 0, .int 0, .int 0, .int 0, .int 0, .int 0, .int 0, .int 0, .int 0, .null, .int 0, .int 0, .int 0, .int 0, .null, .int 0, .null, .null, .null, .int 0, .int 0])), (q_1, .inl (cI, 64, .inl g_9))] := hD
  refine lv_dup hx hb dX7_init_51 rfl ?_
  refine lv_bipush (v := 8) hx hb dX7_init_52 (by decide) ?_
  refine lv_bipush (v := 53) hx hb dX7_init_54 (by decide) ?_
  have h_10 : vp_in 8 64 := vp_in_iff.mpr (by decide)
  refine va_iast hx hb hK hP hD hS 1 1 rfl rfl h_10 dX7_init_56 (fun H locs hP hD hS => ?_)
  have hs_10 := pre_step (i := 8) hs_9 (8 : Int32) (53 : Int32) rfl rfl
  generalize upd g_9 (8 : Int32).toNatClampNeg 53 = g_10 at hP hD hs_10
  have hP : va_P D vwCl [(h, .inr (6, [.null, .null, .null, .null, .int 0, .null, .int 0, .int 0, .int 0, .int 0, .int 0, .int 0, .int 0, .int 0, .int 0, .int 0, .int 0, .int 0, .int 0, .int 0, .null, .int 0, .int 0, .int 0, .int 0, .null, .int 0, .null, .null, .null, .int 0, .int 0])), (q_1, .inl (cI, 64, .inl g_10))] H := hP
  have hD : va_D A [(h, .inr (6, [.null, .null, .null, .null, .int 0, .null, .int 0, .int 0, .int 0, .int 0, .int 0, .int 0, .int 0, .int 0, .int 0, .int 0, .int 0, .int 0, .int 0, .int 0, .null, .int 0, .int 0, .int 0, .int 0, .null, .int 0, .null, .null, .null, .int 0, .int 0])), (q_1, .inl (cI, 64, .inl g_10))] := hD
  refine lv_dup hx hb dX7_init_57 rfl ?_
  refine lv_bipush (v := 9) hx hb dX7_init_58 (by decide) ?_
  refine lv_bipush (v := 10) hx hb dX7_init_60 (by decide) ?_
  have h_11 : vp_in 9 64 := vp_in_iff.mpr (by decide)
  refine va_iast hx hb hK hP hD hS 1 1 rfl rfl h_11 dX7_init_62 (fun H locs hP hD hS => ?_)
  have hs_11 := pre_step (i := 9) hs_10 (9 : Int32) (10 : Int32) rfl rfl
  generalize upd g_10 (9 : Int32).toNatClampNeg 10 = g_11 at hP hD hs_11
  have hP : va_P D vwCl [(h, .inr (6, [.null, .null, .null, .null, .int 0, .null, .int 0, .int 0, .int 0, .int 0, .int 0, .int 0, .int 0, .int 0, .int 0, .int 0, .int 0, .int 0, .int 0, .int 0, .null, .int 0, .int 0, .int 0, .int 0, .null, .int 0, .null, .null, .null, .int 0, .int 0])), (q_1, .inl (cI, 64, .inl g_11))] H := hP
  have hD : va_D A [(h, .inr (6, [.null, .null, .null, .null, .int 0, .null, .int 0, .int 0, .int 0, .int 0, .int 0, .int 0, .int 0, .int 0, .int 0, .int 0, .int 0, .int 0, .int 0, .int 0, .null, .int 0, .int 0, .int 0, .int 0, .null, .int 0, .null, .null, .null, .int 0, .int 0])), (q_1, .inl (cI, 64, .inl g_11))] := hD
  refine lv_dup hx hb dX7_init_63 rfl ?_
  refine lv_bipush (v := 10) hx hb dX7_init_64 (by decide) ?_
  refine lv_bipush (v := 41) hx hb dX7_init_66 (by decide) ?_
  have h_12 : vp_in 10 64 := vp_in_iff.mpr (by decide)
  refine va_iast hx hb hK hP hD hS 1 1 rfl rfl h_12 dX7_init_68 (fun H locs hP hD hS => ?_)
  have hs_12 := pre_step (i := 10) hs_11 (10 : Int32) (41 : Int32) rfl rfl
  generalize upd g_11 (10 : Int32).toNatClampNeg 41 = g_12 at hP hD hs_12
  have hP : va_P D vwCl [(h, .inr (6, [.null, .null, .null, .null, .int 0, .null, .int 0, .int 0, .int 0, .int 0, .int 0, .int 0, .int 0, .int 0, .int 0, .int 0, .int 0, .int 0, .int 0, .int 0, .null, .int 0, .int 0, .int 0, .int 0, .null, .int 0, .null, .null, .null, .int 0, .int 0])), (q_1, .inl (cI, 64, .inl g_12))] H := hP
  have hD : va_D A [(h, .inr (6, [.null, .null, .null, .null, .int 0, .null, .int 0, .int 0, .int 0, .int 0, .int 0, .int 0, .int 0, .int 0, .int 0, .int 0, .int 0, .int 0, .int 0, .int 0, .null, .int 0, .int 0, .int 0, .int 0, .null, .int 0, .null, .null, .null, .int 0, .int 0])), (q_1, .inl (cI, 64, .inl g_12))] := hD
  refine lv_dup hx hb dX7_init_69 rfl ?_
  refine lv_bipush (v := 11) hx hb dX7_init_70 (by decide) ?_
  refine lv_bipush (v := 41) hx hb dX7_init_72 (by decide) ?_
  have h_13 : vp_in 11 64 := vp_in_iff.mpr (by decide)
  refine va_iast hx hb hK hP hD hS 1 1 rfl rfl h_13 dX7_init_74 (fun H locs hP hD hS => ?_)
  have hs_13 := pre_step (i := 11) hs_12 (11 : Int32) (41 : Int32) rfl rfl
  generalize upd g_12 (11 : Int32).toNatClampNeg 41 = g_13 at hP hD hs_13
  have hP : va_P D vwCl [(h, .inr (6, [.null, .null, .null, .null, .int 0, .null, .int 0, .int 0, .int 0, .int 0, .int 0, .int 0, .int 0, .int 0, .int 0, .int 0, .int 0, .int 0, .int 0, .int 0, .null, .int 0, .int 0, .int 0, .int 0, .null, .int 0, .null, .null, .null, .int 0, .int 0])), (q_1, .inl (cI, 64, .inl g_13))] H := hP
  have hD : va_D A [(h, .inr (6, [.null, .null, .null, .null, .int 0, .null, .int 0, .int 0, .int 0, .int 0, .int 0, .int 0, .int 0, .int 0, .int 0, .int 0, .int 0, .int 0, .int 0, .int 0, .null, .int 0, .int 0, .int 0, .int 0, .null, .int 0, .null, .null, .null, .int 0, .int 0])), (q_1, .inl (cI, 64, .inl g_13))] := hD
  refine lv_dup hx hb dX7_init_75 rfl ?_
  refine lv_bipush (v := 12) hx hb dX7_init_76 (by decide) ?_
  refine lv_bipush (v := 25) hx hb dX7_init_78 (by decide) ?_
  have h_14 : vp_in 12 64 := vp_in_iff.mpr (by decide)
  refine va_iast hx hb hK hP hD hS 1 1 rfl rfl h_14 dX7_init_80 (fun H locs hP hD hS => ?_)
  have hs_14 := pre_step (i := 12) hs_13 (12 : Int32) (25 : Int32) rfl rfl
  generalize upd g_13 (12 : Int32).toNatClampNeg 25 = g_14 at hP hD hs_14
  have hP : va_P D vwCl [(h, .inr (6, [.null, .null, .null, .null, .int 0, .null, .int 0, .int 0, .int 0, .int 0, .int 0, .int 0, .int 0, .int 0, .int 0, .int 0, .int 0, .int 0, .int 0, .int 0, .null, .int 0, .int 0, .int 0, .int 0, .null, .int 0, .null, .null, .null, .int 0, .int 0])), (q_1, .inl (cI, 64, .inl g_14))] H := hP
  have hD : va_D A [(h, .inr (6, [.null, .null, .null, .null, .int 0, .null, .int 0, .int 0, .int 0, .int 0, .int 0, .int 0, .int 0, .int 0, .int 0, .int 0, .int 0, .int 0, .int 0, .int 0, .null, .int 0, .int 0, .int 0, .int 0, .null, .int 0, .null, .null, .null, .int 0, .int 0])), (q_1, .inl (cI, 64, .inl g_14))] := hD
  refine lv_dup hx hb dX7_init_81 rfl ?_
  refine lv_bipush (v := 13) hx hb dX7_init_82 (by decide) ?_
  refine lv_bipush (v := 25) hx hb dX7_init_84 (by decide) ?_
  have h_15 : vp_in 13 64 := vp_in_iff.mpr (by decide)
  refine va_iast hx hb hK hP hD hS 1 1 rfl rfl h_15 dX7_init_86 (fun H locs hP hD hS => ?_)
  have hs_15 := pre_step (i := 13) hs_14 (13 : Int32) (25 : Int32) rfl rfl
  generalize upd g_14 (13 : Int32).toNatClampNeg 25 = g_15 at hP hD hs_15
  have hP : va_P D vwCl [(h, .inr (6, [.null, .null, .null, .null, .int 0, .null, .int 0, .int 0, .int 0, .int 0, .int 0, .int 0, .int 0, .int 0, .int 0, .int 0, .int 0, .int 0, .int 0, .int 0, .null, .int 0, .int 0, .int 0, .int 0, .null, .int 0, .null, .null, .null, .int 0, .int 0])), (q_1, .inl (cI, 64, .inl g_15))] H := hP
  have hD : va_D A [(h, .inr (6, [.null, .null, .null, .null, .int 0, .null, .int 0, .int 0, .int 0, .int 0, .int 0, .int 0, .int 0, .int 0, .int 0, .int 0, .int 0, .int 0, .int 0, .int 0, .null, .int 0, .int 0, .int 0, .int 0, .null, .int 0, .null, .null, .null, .int 0, .int 0])), (q_1, .inl (cI, 64, .inl g_15))] := hD
  refine lv_dup hx hb dX7_init_87 rfl ?_
  refine lv_bipush (v := 14) hx hb dX7_init_88 (by decide) ?_
  refine lv_bipush (v := 56) hx hb dX7_init_90 (by decide) ?_
  have h_16 : vp_in 14 64 := vp_in_iff.mpr (by decide)
  refine va_iast hx hb hK hP hD hS 1 1 rfl rfl h_16 dX7_init_92 (fun H locs hP hD hS => ?_)
  have hs_16 := pre_step (i := 14) hs_15 (14 : Int32) (56 : Int32) rfl rfl
  generalize upd g_15 (14 : Int32).toNatClampNeg 56 = g_16 at hP hD hs_16
  have hP : va_P D vwCl [(h, .inr (6, [.null, .null, .null, .null, .int 0, .null, .int 0, .int 0, .int 0, .int 0, .int 0, .int 0, .int 0, .int 0, .int 0, .int 0, .int 0, .int 0, .int 0, .int 0, .null, .int 0, .int 0, .int 0, .int 0, .null, .int 0, .null, .null, .null, .int 0, .int 0])), (q_1, .inl (cI, 64, .inl g_16))] H := hP
  have hD : va_D A [(h, .inr (6, [.null, .null, .null, .null, .int 0, .null, .int 0, .int 0, .int 0, .int 0, .int 0, .int 0, .int 0, .int 0, .int 0, .int 0, .int 0, .int 0, .int 0, .int 0, .null, .int 0, .int 0, .int 0, .int 0, .null, .int 0, .null, .null, .null, .int 0, .int 0])), (q_1, .inl (cI, 64, .inl g_16))] := hD
  refine lv_dup hx hb dX7_init_93 rfl ?_
  refine lv_bipush (v := 15) hx hb dX7_init_94 (by decide) ?_
  refine lv_bipush (v := 7) hx hb dX7_init_96 (by decide) ?_
  have h_17 : vp_in 15 64 := vp_in_iff.mpr (by decide)
  refine va_iast hx hb hK hP hD hS 1 1 rfl rfl h_17 dX7_init_98 (fun H locs hP hD hS => ?_)
  have hs_17 := pre_step (i := 15) hs_16 (15 : Int32) (7 : Int32) rfl rfl
  generalize upd g_16 (15 : Int32).toNatClampNeg 7 = g_17 at hP hD hs_17
  have hP : va_P D vwCl [(h, .inr (6, [.null, .null, .null, .null, .int 0, .null, .int 0, .int 0, .int 0, .int 0, .int 0, .int 0, .int 0, .int 0, .int 0, .int 0, .int 0, .int 0, .int 0, .int 0, .null, .int 0, .int 0, .int 0, .int 0, .null, .int 0, .null, .null, .null, .int 0, .int 0])), (q_1, .inl (cI, 64, .inl g_17))] H := hP
  have hD : va_D A [(h, .inr (6, [.null, .null, .null, .null, .int 0, .null, .int 0, .int 0, .int 0, .int 0, .int 0, .int 0, .int 0, .int 0, .int 0, .int 0, .int 0, .int 0, .int 0, .int 0, .null, .int 0, .int 0, .int 0, .int 0, .null, .int 0, .null, .null, .null, .int 0, .int 0])), (q_1, .inl (cI, 64, .inl g_17))] := hD
  refine lv_dup hx hb dX7_init_99 rfl ?_
  refine lv_bipush (v := 16) hx hb dX7_init_100 (by decide) ?_
  refine lv_bipush (v := 57) hx hb dX7_init_102 (by decide) ?_
  have h_18 : vp_in 16 64 := vp_in_iff.mpr (by decide)
  refine va_iast hx hb hK hP hD hS 1 1 rfl rfl h_18 dX7_init_104 (fun H locs hP hD hS => ?_)
  have hs_18 := pre_step (i := 16) hs_17 (16 : Int32) (57 : Int32) rfl rfl
  generalize upd g_17 (16 : Int32).toNatClampNeg 57 = g_18 at hP hD hs_18
  have hP : va_P D vwCl [(h, .inr (6, [.null, .null, .null, .null, .int 0, .null, .int 0, .int 0, .int 0, .int 0, .int 0, .int 0, .int 0, .int 0, .int 0, .int 0, .int 0, .int 0, .int 0, .int 0, .null, .int 0, .int 0, .int 0, .int 0, .null, .int 0, .null, .null, .null, .int 0, .int 0])), (q_1, .inl (cI, 64, .inl g_18))] H := hP
  have hD : va_D A [(h, .inr (6, [.null, .null, .null, .null, .int 0, .null, .int 0, .int 0, .int 0, .int 0, .int 0, .int 0, .int 0, .int 0, .int 0, .int 0, .int 0, .int 0, .int 0, .int 0, .null, .int 0, .int 0, .int 0, .int 0, .null, .int 0, .null, .null, .null, .int 0, .int 0])), (q_1, .inl (cI, 64, .inl g_18))] := hD
  refine lv_dup hx hb dX7_init_105 rfl ?_
  refine lv_bipush (v := 17) hx hb dX7_init_106 (by decide) ?_
  refine lv_bipush (v := 6) hx hb dX7_init_108 (by decide) ?_
  have h_19 : vp_in 17 64 := vp_in_iff.mpr (by decide)
  refine va_iast hx hb hK hP hD hS 1 1 rfl rfl h_19 dX7_init_110 (fun H locs hP hD hS => ?_)
  have hs_19 := pre_step (i := 17) hs_18 (17 : Int32) (6 : Int32) rfl rfl
  generalize upd g_18 (17 : Int32).toNatClampNeg 6 = g_19 at hP hD hs_19
  have hP : va_P D vwCl [(h, .inr (6, [.null, .null, .null, .null, .int 0, .null, .int 0, .int 0, .int 0, .int 0, .int 0, .int 0, .int 0, .int 0, .int 0, .int 0, .int 0, .int 0, .int 0, .int 0, .null, .int 0, .int 0, .int 0, .int 0, .null, .int 0, .null, .null, .null, .int 0, .int 0])), (q_1, .inl (cI, 64, .inl g_19))] H := hP
  have hD : va_D A [(h, .inr (6, [.null, .null, .null, .null, .int 0, .null, .int 0, .int 0, .int 0, .int 0, .int 0, .int 0, .int 0, .int 0, .int 0, .int 0, .int 0, .int 0, .int 0, .int 0, .null, .int 0, .int 0, .int 0, .int 0, .null, .int 0, .null, .null, .null, .int 0, .int 0])), (q_1, .inl (cI, 64, .inl g_19))] := hD
  refine lv_dup hx hb dX7_init_111 rfl ?_
  refine lv_bipush (v := 18) hx hb dX7_init_112 (by decide) ?_
  refine lv_bipush (v := 37) hx hb dX7_init_114 (by decide) ?_
  have h_20 : vp_in 18 64 := vp_in_iff.mpr (by decide)
  refine va_iast hx hb hK hP hD hS 1 1 rfl rfl h_20 dX7_init_116 (fun H locs hP hD hS => ?_)
  have hs_20 := pre_step (i := 18) hs_19 (18 : Int32) (37 : Int32) rfl rfl
  generalize upd g_19 (18 : Int32).toNatClampNeg 37 = g_20 at hP hD hs_20
  have hP : va_P D vwCl [(h, .inr (6, [.null, .null, .null, .null, .int 0, .null, .int 0, .int 0, .int 0, .int 0, .int 0, .int 0, .int 0, .int 0, .int 0, .int 0, .int 0, .int 0, .int 0, .int 0, .null, .int 0, .int 0, .int 0, .int 0, .null, .int 0, .null, .null, .null, .int 0, .int 0])), (q_1, .inl (cI, 64, .inl g_20))] H := hP
  have hD : va_D A [(h, .inr (6, [.null, .null, .null, .null, .int 0, .null, .int 0, .int 0, .int 0, .int 0, .int 0, .int 0, .int 0, .int 0, .int 0, .int 0, .int 0, .int 0, .int 0, .int 0, .null, .int 0, .int 0, .int 0, .int 0, .null, .int 0, .null, .null, .null, .int 0, .int 0])), (q_1, .inl (cI, 64, .inl g_20))] := hD
  refine lv_dup hx hb dX7_init_117 rfl ?_
  refine lv_bipush (v := 19) hx hb dX7_init_118 (by decide) ?_
  refine lv_bipush (v := 37) hx hb dX7_init_120 (by decide) ?_
  have h_21 : vp_in 19 64 := vp_in_iff.mpr (by decide)
  refine va_iast hx hb hK hP hD hS 1 1 rfl rfl h_21 dX7_init_122 (fun H locs hP hD hS => ?_)
  have hs_21 := pre_step (i := 19) hs_20 (19 : Int32) (37 : Int32) rfl rfl
  generalize upd g_20 (19 : Int32).toNatClampNeg 37 = g_21 at hP hD hs_21
  have hP : va_P D vwCl [(h, .inr (6, [.null, .null, .null, .null, .int 0, .null, .int 0, .int 0, .int 0, .int 0, .int 0, .int 0, .int 0, .int 0, .int 0, .int 0, .int 0, .int 0, .int 0, .int 0, .null, .int 0, .int 0, .int 0, .int 0, .null, .int 0, .null, .null, .null, .int 0, .int 0])), (q_1, .inl (cI, 64, .inl g_21))] H := hP
  have hD : va_D A [(h, .inr (6, [.null, .null, .null, .null, .int 0, .null, .int 0, .int 0, .int 0, .int 0, .int 0, .int 0, .int 0, .int 0, .int 0, .int 0, .int 0, .int 0, .int 0, .int 0, .null, .int 0, .int 0, .int 0, .int 0, .null, .int 0, .null, .null, .null, .int 0, .int 0])), (q_1, .inl (cI, 64, .inl g_21))] := hD
  refine lv_dup hx hb dX7_init_123 rfl ?_
  refine lv_bipush (v := 20) hx hb dX7_init_124 (by decide) ?_
  refine lv_bipush (v := 21) hx hb dX7_init_126 (by decide) ?_
  have h_22 : vp_in 20 64 := vp_in_iff.mpr (by decide)
  refine va_iast hx hb hK hP hD hS 1 1 rfl rfl h_22 dX7_init_128 (fun H locs hP hD hS => ?_)
  have hs_22 := pre_step (i := 20) hs_21 (20 : Int32) (21 : Int32) rfl rfl
  generalize upd g_21 (20 : Int32).toNatClampNeg 21 = g_22 at hP hD hs_22
  have hP : va_P D vwCl [(h, .inr (6, [.null, .null, .null, .null, .int 0, .null, .int 0, .int 0, .int 0, .int 0, .int 0, .int 0, .int 0, .int 0, .int 0, .int 0, .int 0, .int 0, .int 0, .int 0, .null, .int 0, .int 0, .int 0, .int 0, .null, .int 0, .null, .null, .null, .int 0, .int 0])), (q_1, .inl (cI, 64, .inl g_22))] H := hP
  have hD : va_D A [(h, .inr (6, [.null, .null, .null, .null, .int 0, .null, .int 0, .int 0, .int 0, .int 0, .int 0, .int 0, .int 0, .int 0, .int 0, .int 0, .int 0, .int 0, .int 0, .int 0, .null, .int 0, .int 0, .int 0, .int 0, .null, .int 0, .null, .null, .null, .int 0, .int 0])), (q_1, .inl (cI, 64, .inl g_22))] := hD
  refine lv_dup hx hb dX7_init_129 rfl ?_
  refine lv_bipush (v := 21) hx hb dX7_init_130 (by decide) ?_
  refine lv_bipush (v := 21) hx hb dX7_init_132 (by decide) ?_
  have h_23 : vp_in 21 64 := vp_in_iff.mpr (by decide)
  refine va_iast hx hb hK hP hD hS 1 1 rfl rfl h_23 dX7_init_134 (fun H locs hP hD hS => ?_)
  have hs_23 := pre_step (i := 21) hs_22 (21 : Int32) (21 : Int32) rfl rfl
  generalize upd g_22 (21 : Int32).toNatClampNeg 21 = g_23 at hP hD hs_23
  have hP : va_P D vwCl [(h, .inr (6, [.null, .null, .null, .null, .int 0, .null, .int 0, .int 0, .int 0, .int 0, .int 0, .int 0, .int 0, .int 0, .int 0, .int 0, .int 0, .int 0, .int 0, .int 0, .null, .int 0, .int 0, .int 0, .int 0, .null, .int 0, .null, .null, .null, .int 0, .int 0])), (q_1, .inl (cI, 64, .inl g_23))] H := hP
  have hD : va_D A [(h, .inr (6, [.null, .null, .null, .null, .int 0, .null, .int 0, .int 0, .int 0, .int 0, .int 0, .int 0, .int 0, .int 0, .int 0, .int 0, .int 0, .int 0, .int 0, .int 0, .null, .int 0, .int 0, .int 0, .int 0, .null, .int 0, .null, .null, .null, .int 0, .int 0])), (q_1, .inl (cI, 64, .inl g_23))] := hD
  refine lv_dup hx hb dX7_init_135 rfl ?_
  refine lv_bipush (v := 22) hx hb dX7_init_136 (by decide) ?_
  refine lv_bipush (v := 52) hx hb dX7_init_138 (by decide) ?_
  have h_24 : vp_in 22 64 := vp_in_iff.mpr (by decide)
  refine va_iast hx hb hK hP hD hS 1 1 rfl rfl h_24 dX7_init_140 (fun H locs hP hD hS => ?_)
  have hs_24 := pre_step (i := 22) hs_23 (22 : Int32) (52 : Int32) rfl rfl
  generalize upd g_23 (22 : Int32).toNatClampNeg 52 = g_24 at hP hD hs_24
  have hP : va_P D vwCl [(h, .inr (6, [.null, .null, .null, .null, .int 0, .null, .int 0, .int 0, .int 0, .int 0, .int 0, .int 0, .int 0, .int 0, .int 0, .int 0, .int 0, .int 0, .int 0, .int 0, .null, .int 0, .int 0, .int 0, .int 0, .null, .int 0, .null, .null, .null, .int 0, .int 0])), (q_1, .inl (cI, 64, .inl g_24))] H := hP
  have hD : va_D A [(h, .inr (6, [.null, .null, .null, .null, .int 0, .null, .int 0, .int 0, .int 0, .int 0, .int 0, .int 0, .int 0, .int 0, .int 0, .int 0, .int 0, .int 0, .int 0, .int 0, .null, .int 0, .int 0, .int 0, .int 0, .null, .int 0, .null, .null, .null, .int 0, .int 0])), (q_1, .inl (cI, 64, .inl g_24))] := hD
  refine lv_dup hx hb dX7_init_141 rfl ?_
  refine lv_bipush (v := 23) hx hb dX7_init_142 (by decide) ?_
  refine lv_bipush (v := 52) hx hb dX7_init_144 (by decide) ?_
  have h_25 : vp_in 23 64 := vp_in_iff.mpr (by decide)
  refine va_iast hx hb hK hP hD hS 1 1 rfl rfl h_25 dX7_init_146 (fun H locs hP hD hS => ?_)
  have hs_25 := pre_step (i := 23) hs_24 (23 : Int32) (52 : Int32) rfl rfl
  generalize upd g_24 (23 : Int32).toNatClampNeg 52 = g_25 at hP hD hs_25
  have hP : va_P D vwCl [(h, .inr (6, [.null, .null, .null, .null, .int 0, .null, .int 0, .int 0, .int 0, .int 0, .int 0, .int 0, .int 0, .int 0, .int 0, .int 0, .int 0, .int 0, .int 0, .int 0, .null, .int 0, .int 0, .int 0, .int 0, .null, .int 0, .null, .null, .null, .int 0, .int 0])), (q_1, .inl (cI, 64, .inl g_25))] H := hP
  have hD : va_D A [(h, .inr (6, [.null, .null, .null, .null, .int 0, .null, .int 0, .int 0, .int 0, .int 0, .int 0, .int 0, .int 0, .int 0, .int 0, .int 0, .int 0, .int 0, .int 0, .int 0, .null, .int 0, .int 0, .int 0, .int 0, .null, .int 0, .null, .null, .null, .int 0, .int 0])), (q_1, .inl (cI, 64, .inl g_25))] := hD
  refine lv_dup hx hb dX7_init_147 rfl ?_
  refine lv_bipush (v := 24) hx hb dX7_init_148 (by decide) ?_
  refine lv_bipush (v := 13) hx hb dX7_init_150 (by decide) ?_
  have h_26 : vp_in 24 64 := vp_in_iff.mpr (by decide)
  refine va_iast hx hb hK hP hD hS 1 1 rfl rfl h_26 dX7_init_152 (fun H locs hP hD hS => ?_)
  have hs_26 := pre_step (i := 24) hs_25 (24 : Int32) (13 : Int32) rfl rfl
  generalize upd g_25 (24 : Int32).toNatClampNeg 13 = g_26 at hP hD hs_26
  have hP : va_P D vwCl [(h, .inr (6, [.null, .null, .null, .null, .int 0, .null, .int 0, .int 0, .int 0, .int 0, .int 0, .int 0, .int 0, .int 0, .int 0, .int 0, .int 0, .int 0, .int 0, .int 0, .null, .int 0, .int 0, .int 0, .int 0, .null, .int 0, .null, .null, .null, .int 0, .int 0])), (q_1, .inl (cI, 64, .inl g_26))] H := hP
  have hD : va_D A [(h, .inr (6, [.null, .null, .null, .null, .int 0, .null, .int 0, .int 0, .int 0, .int 0, .int 0, .int 0, .int 0, .int 0, .int 0, .int 0, .int 0, .int 0, .int 0, .int 0, .null, .int 0, .int 0, .int 0, .int 0, .null, .int 0, .null, .null, .null, .int 0, .int 0])), (q_1, .inl (cI, 64, .inl g_26))] := hD
  refine lv_dup hx hb dX7_init_153 rfl ?_
  refine lv_bipush (v := 25) hx hb dX7_init_154 (by decide) ?_
  refine lv_bipush (v := 13) hx hb dX7_init_156 (by decide) ?_
  have h_27 : vp_in 25 64 := vp_in_iff.mpr (by decide)
  refine va_iast hx hb hK hP hD hS 1 1 rfl rfl h_27 dX7_init_158 (fun H locs hP hD hS => ?_)
  have hs_27 := pre_step (i := 25) hs_26 (25 : Int32) (13 : Int32) rfl rfl
  generalize upd g_26 (25 : Int32).toNatClampNeg 13 = g_27 at hP hD hs_27
  have hP : va_P D vwCl [(h, .inr (6, [.null, .null, .null, .null, .int 0, .null, .int 0, .int 0, .int 0, .int 0, .int 0, .int 0, .int 0, .int 0, .int 0, .int 0, .int 0, .int 0, .int 0, .int 0, .null, .int 0, .int 0, .int 0, .int 0, .null, .int 0, .null, .null, .null, .int 0, .int 0])), (q_1, .inl (cI, 64, .inl g_27))] H := hP
  have hD : va_D A [(h, .inr (6, [.null, .null, .null, .null, .int 0, .null, .int 0, .int 0, .int 0, .int 0, .int 0, .int 0, .int 0, .int 0, .int 0, .int 0, .int 0, .int 0, .int 0, .int 0, .null, .int 0, .int 0, .int 0, .int 0, .null, .int 0, .null, .null, .null, .int 0, .int 0])), (q_1, .inl (cI, 64, .inl g_27))] := hD
  refine lv_dup hx hb dX7_init_159 rfl ?_
  refine lv_bipush (v := 26) hx hb dX7_init_160 (by decide) ?_
  refine lv_bipush (v := 44) hx hb dX7_init_162 (by decide) ?_
  have h_28 : vp_in 26 64 := vp_in_iff.mpr (by decide)
  refine va_iast hx hb hK hP hD hS 1 1 rfl rfl h_28 dX7_init_164 (fun H locs hP hD hS => ?_)
  have hs_28 := pre_step (i := 26) hs_27 (26 : Int32) (44 : Int32) rfl rfl
  generalize upd g_27 (26 : Int32).toNatClampNeg 44 = g_28 at hP hD hs_28
  have hP : va_P D vwCl [(h, .inr (6, [.null, .null, .null, .null, .int 0, .null, .int 0, .int 0, .int 0, .int 0, .int 0, .int 0, .int 0, .int 0, .int 0, .int 0, .int 0, .int 0, .int 0, .int 0, .null, .int 0, .int 0, .int 0, .int 0, .null, .int 0, .null, .null, .null, .int 0, .int 0])), (q_1, .inl (cI, 64, .inl g_28))] H := hP
  have hD : va_D A [(h, .inr (6, [.null, .null, .null, .null, .int 0, .null, .int 0, .int 0, .int 0, .int 0, .int 0, .int 0, .int 0, .int 0, .int 0, .int 0, .int 0, .int 0, .int 0, .int 0, .null, .int 0, .int 0, .int 0, .int 0, .null, .int 0, .null, .null, .null, .int 0, .int 0])), (q_1, .inl (cI, 64, .inl g_28))] := hD
  refine lv_dup hx hb dX7_init_165 rfl ?_
  refine lv_bipush (v := 27) hx hb dX7_init_166 (by decide) ?_
  refine lv_bipush (v := 44) hx hb dX7_init_168 (by decide) ?_
  have h_29 : vp_in 27 64 := vp_in_iff.mpr (by decide)
  refine va_iast hx hb hK hP hD hS 1 1 rfl rfl h_29 dX7_init_170 (fun H locs hP hD hS => ?_)
  have hs_29 := pre_step (i := 27) hs_28 (27 : Int32) (44 : Int32) rfl rfl
  generalize upd g_28 (27 : Int32).toNatClampNeg 44 = g_29 at hP hD hs_29
  have hP : va_P D vwCl [(h, .inr (6, [.null, .null, .null, .null, .int 0, .null, .int 0, .int 0, .int 0, .int 0, .int 0, .int 0, .int 0, .int 0, .int 0, .int 0, .int 0, .int 0, .int 0, .int 0, .null, .int 0, .int 0, .int 0, .int 0, .null, .int 0, .null, .null, .null, .int 0, .int 0])), (q_1, .inl (cI, 64, .inl g_29))] H := hP
  have hD : va_D A [(h, .inr (6, [.null, .null, .null, .null, .int 0, .null, .int 0, .int 0, .int 0, .int 0, .int 0, .int 0, .int 0, .int 0, .int 0, .int 0, .int 0, .int 0, .int 0, .int 0, .null, .int 0, .int 0, .int 0, .int 0, .null, .int 0, .null, .null, .null, .int 0, .int 0])), (q_1, .inl (cI, 64, .inl g_29))] := hD
  refine lv_dup hx hb dX7_init_171 rfl ?_
  refine lv_bipush (v := 28) hx hb dX7_init_172 (by decide) ?_
  refine lv_bipush (v := 28) hx hb dX7_init_174 (by decide) ?_
  have h_30 : vp_in 28 64 := vp_in_iff.mpr (by decide)
  refine va_iast hx hb hK hP hD hS 1 1 rfl rfl h_30 dX7_init_176 (fun H locs hP hD hS => ?_)
  have hs_30 := pre_step (i := 28) hs_29 (28 : Int32) (28 : Int32) rfl rfl
  generalize upd g_29 (28 : Int32).toNatClampNeg 28 = g_30 at hP hD hs_30
  have hP : va_P D vwCl [(h, .inr (6, [.null, .null, .null, .null, .int 0, .null, .int 0, .int 0, .int 0, .int 0, .int 0, .int 0, .int 0, .int 0, .int 0, .int 0, .int 0, .int 0, .int 0, .int 0, .null, .int 0, .int 0, .int 0, .int 0, .null, .int 0, .null, .null, .null, .int 0, .int 0])), (q_1, .inl (cI, 64, .inl g_30))] H := hP
  have hD : va_D A [(h, .inr (6, [.null, .null, .null, .null, .int 0, .null, .int 0, .int 0, .int 0, .int 0, .int 0, .int 0, .int 0, .int 0, .int 0, .int 0, .int 0, .int 0, .int 0, .int 0, .null, .int 0, .int 0, .int 0, .int 0, .null, .int 0, .null, .null, .null, .int 0, .int 0])), (q_1, .inl (cI, 64, .inl g_30))] := hD
  refine lv_dup hx hb dX7_init_177 rfl ?_
  refine lv_bipush (v := 29) hx hb dX7_init_178 (by decide) ?_
  refine lv_bipush (v := 28) hx hb dX7_init_180 (by decide) ?_
  have h_31 : vp_in 29 64 := vp_in_iff.mpr (by decide)
  refine va_iast hx hb hK hP hD hS 1 1 rfl rfl h_31 dX7_init_182 (fun H locs hP hD hS => ?_)
  have hs_31 := pre_step (i := 29) hs_30 (29 : Int32) (28 : Int32) rfl rfl
  generalize upd g_30 (29 : Int32).toNatClampNeg 28 = g_31 at hP hD hs_31
  have hP : va_P D vwCl [(h, .inr (6, [.null, .null, .null, .null, .int 0, .null, .int 0, .int 0, .int 0, .int 0, .int 0, .int 0, .int 0, .int 0, .int 0, .int 0, .int 0, .int 0, .int 0, .int 0, .null, .int 0, .int 0, .int 0, .int 0, .null, .int 0, .null, .null, .null, .int 0, .int 0])), (q_1, .inl (cI, 64, .inl g_31))] H := hP
  have hD : va_D A [(h, .inr (6, [.null, .null, .null, .null, .int 0, .null, .int 0, .int 0, .int 0, .int 0, .int 0, .int 0, .int 0, .int 0, .int 0, .int 0, .int 0, .int 0, .int 0, .int 0, .null, .int 0, .int 0, .int 0, .int 0, .null, .int 0, .null, .null, .null, .int 0, .int 0])), (q_1, .inl (cI, 64, .inl g_31))] := hD
  refine lv_dup hx hb dX7_init_183 rfl ?_
  refine lv_bipush (v := 30) hx hb dX7_init_184 (by decide) ?_
  refine lv_bipush (v := 23) hx hb dX7_init_186 (by decide) ?_
  have h_32 : vp_in 30 64 := vp_in_iff.mpr (by decide)
  refine va_iast hx hb hK hP hD hS 1 1 rfl rfl h_32 dX7_init_188 (fun H locs hP hD hS => ?_)
  have hs_32 := pre_step (i := 30) hs_31 (30 : Int32) (23 : Int32) rfl rfl
  generalize upd g_31 (30 : Int32).toNatClampNeg 23 = g_32 at hP hD hs_32
  have hP : va_P D vwCl [(h, .inr (6, [.null, .null, .null, .null, .int 0, .null, .int 0, .int 0, .int 0, .int 0, .int 0, .int 0, .int 0, .int 0, .int 0, .int 0, .int 0, .int 0, .int 0, .int 0, .null, .int 0, .int 0, .int 0, .int 0, .null, .int 0, .null, .null, .null, .int 0, .int 0])), (q_1, .inl (cI, 64, .inl g_32))] H := hP
  have hD : va_D A [(h, .inr (6, [.null, .null, .null, .null, .int 0, .null, .int 0, .int 0, .int 0, .int 0, .int 0, .int 0, .int 0, .int 0, .int 0, .int 0, .int 0, .int 0, .int 0, .int 0, .null, .int 0, .int 0, .int 0, .int 0, .null, .int 0, .null, .null, .null, .int 0, .int 0])), (q_1, .inl (cI, 64, .inl g_32))] := hD
  refine lv_dup hx hb dX7_init_189 rfl ?_
  refine lv_bipush (v := 31) hx hb dX7_init_190 (by decide) ?_
  refine lv_bipush (v := 40) hx hb dX7_init_192 (by decide) ?_
  have h_33 : vp_in 31 64 := vp_in_iff.mpr (by decide)
  refine va_iast hx hb hK hP hD hS 1 1 rfl rfl h_33 dX7_init_194 (fun H locs hP hD hS => ?_)
  have hs_33 := pre_step (i := 31) hs_32 (31 : Int32) (40 : Int32) rfl rfl
  generalize upd g_32 (31 : Int32).toNatClampNeg 40 = g_33 at hP hD hs_33
  have hP : va_P D vwCl [(h, .inr (6, [.null, .null, .null, .null, .int 0, .null, .int 0, .int 0, .int 0, .int 0, .int 0, .int 0, .int 0, .int 0, .int 0, .int 0, .int 0, .int 0, .int 0, .int 0, .null, .int 0, .int 0, .int 0, .int 0, .null, .int 0, .null, .null, .null, .int 0, .int 0])), (q_1, .inl (cI, 64, .inl g_33))] H := hP
  have hD : va_D A [(h, .inr (6, [.null, .null, .null, .null, .int 0, .null, .int 0, .int 0, .int 0, .int 0, .int 0, .int 0, .int 0, .int 0, .int 0, .int 0, .int 0, .int 0, .int 0, .int 0, .null, .int 0, .int 0, .int 0, .int 0, .null, .int 0, .null, .null, .null, .int 0, .int 0])), (q_1, .inl (cI, 64, .inl g_33))] := hD
  refine lv_dup hx hb dX7_init_195 rfl ?_
  refine lv_bipush (v := 32) hx hb dX7_init_196 (by decide) ?_
  refine lv_bipush (v := 27) hx hb dX7_init_198 (by decide) ?_
  have h_34 : vp_in 32 64 := vp_in_iff.mpr (by decide)
  refine va_iast hx hb hK hP hD hS 1 1 rfl rfl h_34 dX7_init_200 (fun H locs hP hD hS => ?_)
  have hs_34 := pre_step (i := 32) hs_33 (32 : Int32) (27 : Int32) rfl rfl
  generalize upd g_33 (32 : Int32).toNatClampNeg 27 = g_34 at hP hD hs_34
  have hP : va_P D vwCl [(h, .inr (6, [.null, .null, .null, .null, .int 0, .null, .int 0, .int 0, .int 0, .int 0, .int 0, .int 0, .int 0, .int 0, .int 0, .int 0, .int 0, .int 0, .int 0, .int 0, .null, .int 0, .int 0, .int 0, .int 0, .null, .int 0, .null, .null, .null, .int 0, .int 0])), (q_1, .inl (cI, 64, .inl g_34))] H := hP
  have hD : va_D A [(h, .inr (6, [.null, .null, .null, .null, .int 0, .null, .int 0, .int 0, .int 0, .int 0, .int 0, .int 0, .int 0, .int 0, .int 0, .int 0, .int 0, .int 0, .int 0, .int 0, .null, .int 0, .int 0, .int 0, .int 0, .null, .int 0, .null, .null, .null, .int 0, .int 0])), (q_1, .inl (cI, 64, .inl g_34))] := hD
  refine lv_dup hx hb dX7_init_201 rfl ?_
  refine lv_bipush (v := 33) hx hb dX7_init_202 (by decide) ?_
  refine lv_bipush (v := 36) hx hb dX7_init_204 (by decide) ?_
  have h_35 : vp_in 33 64 := vp_in_iff.mpr (by decide)
  refine va_iast hx hb hK hP hD hS 1 1 rfl rfl h_35 dX7_init_206 (fun H locs hP hD hS => ?_)
  have hs_35 := pre_step (i := 33) hs_34 (33 : Int32) (36 : Int32) rfl rfl
  generalize upd g_34 (33 : Int32).toNatClampNeg 36 = g_35 at hP hD hs_35
  have hP : va_P D vwCl [(h, .inr (6, [.null, .null, .null, .null, .int 0, .null, .int 0, .int 0, .int 0, .int 0, .int 0, .int 0, .int 0, .int 0, .int 0, .int 0, .int 0, .int 0, .int 0, .int 0, .null, .int 0, .int 0, .int 0, .int 0, .null, .int 0, .null, .null, .null, .int 0, .int 0])), (q_1, .inl (cI, 64, .inl g_35))] H := hP
  have hD : va_D A [(h, .inr (6, [.null, .null, .null, .null, .int 0, .null, .int 0, .int 0, .int 0, .int 0, .int 0, .int 0, .int 0, .int 0, .int 0, .int 0, .int 0, .int 0, .int 0, .int 0, .null, .int 0, .int 0, .int 0, .int 0, .null, .int 0, .null, .null, .null, .int 0, .int 0])), (q_1, .inl (cI, 64, .inl g_35))] := hD
  refine lv_dup hx hb dX7_init_207 rfl ?_
  refine lv_bipush (v := 34) hx hb dX7_init_208 (by decide) ?_
  refine lv_bipush (v := 35) hx hb dX7_init_210 (by decide) ?_
  have h_36 : vp_in 34 64 := vp_in_iff.mpr (by decide)
  refine va_iast hx hb hK hP hD hS 1 1 rfl rfl h_36 dX7_init_212 (fun H locs hP hD hS => ?_)
  have hs_36 := pre_step (i := 34) hs_35 (34 : Int32) (35 : Int32) rfl rfl
  generalize upd g_35 (34 : Int32).toNatClampNeg 35 = g_36 at hP hD hs_36
  have hP : va_P D vwCl [(h, .inr (6, [.null, .null, .null, .null, .int 0, .null, .int 0, .int 0, .int 0, .int 0, .int 0, .int 0, .int 0, .int 0, .int 0, .int 0, .int 0, .int 0, .int 0, .int 0, .null, .int 0, .int 0, .int 0, .int 0, .null, .int 0, .null, .null, .null, .int 0, .int 0])), (q_1, .inl (cI, 64, .inl g_36))] H := hP
  have hD : va_D A [(h, .inr (6, [.null, .null, .null, .null, .int 0, .null, .int 0, .int 0, .int 0, .int 0, .int 0, .int 0, .int 0, .int 0, .int 0, .int 0, .int 0, .int 0, .int 0, .int 0, .null, .int 0, .int 0, .int 0, .int 0, .null, .int 0, .null, .null, .null, .int 0, .int 0])), (q_1, .inl (cI, 64, .inl g_36))] := hD
  refine lv_dup hx hb dX7_init_213 rfl ?_
  refine lv_bipush (v := 35) hx hb dX7_init_214 (by decide) ?_
  refine lv_bipush (v := 35) hx hb dX7_init_216 (by decide) ?_
  have h_37 : vp_in 35 64 := vp_in_iff.mpr (by decide)
  refine va_iast hx hb hK hP hD hS 1 1 rfl rfl h_37 dX7_init_218 (fun H locs hP hD hS => ?_)
  have hs_37 := pre_step (i := 35) hs_36 (35 : Int32) (35 : Int32) rfl rfl
  generalize upd g_36 (35 : Int32).toNatClampNeg 35 = g_37 at hP hD hs_37
  have hP : va_P D vwCl [(h, .inr (6, [.null, .null, .null, .null, .int 0, .null, .int 0, .int 0, .int 0, .int 0, .int 0, .int 0, .int 0, .int 0, .int 0, .int 0, .int 0, .int 0, .int 0, .int 0, .null, .int 0, .int 0, .int 0, .int 0, .null, .int 0, .null, .null, .null, .int 0, .int 0])), (q_1, .inl (cI, 64, .inl g_37))] H := hP
  have hD : va_D A [(h, .inr (6, [.null, .null, .null, .null, .int 0, .null, .int 0, .int 0, .int 0, .int 0, .int 0, .int 0, .int 0, .int 0, .int 0, .int 0, .int 0, .int 0, .int 0, .int 0, .null, .int 0, .int 0, .int 0, .int 0, .null, .int 0, .null, .null, .null, .int 0, .int 0])), (q_1, .inl (cI, 64, .inl g_37))] := hD
  refine lv_dup hx hb dX7_init_219 rfl ?_
  refine lv_bipush (v := 36) hx hb dX7_init_220 (by decide) ?_
  refine lv_bipush (v := 19) hx hb dX7_init_222 (by decide) ?_
  have h_38 : vp_in 36 64 := vp_in_iff.mpr (by decide)
  refine va_iast hx hb hK hP hD hS 1 1 rfl rfl h_38 dX7_init_224 (fun H locs hP hD hS => ?_)
  have hs_38 := pre_step (i := 36) hs_37 (36 : Int32) (19 : Int32) rfl rfl
  generalize upd g_37 (36 : Int32).toNatClampNeg 19 = g_38 at hP hD hs_38
  have hP : va_P D vwCl [(h, .inr (6, [.null, .null, .null, .null, .int 0, .null, .int 0, .int 0, .int 0, .int 0, .int 0, .int 0, .int 0, .int 0, .int 0, .int 0, .int 0, .int 0, .int 0, .int 0, .null, .int 0, .int 0, .int 0, .int 0, .null, .int 0, .null, .null, .null, .int 0, .int 0])), (q_1, .inl (cI, 64, .inl g_38))] H := hP
  have hD : va_D A [(h, .inr (6, [.null, .null, .null, .null, .int 0, .null, .int 0, .int 0, .int 0, .int 0, .int 0, .int 0, .int 0, .int 0, .int 0, .int 0, .int 0, .int 0, .int 0, .int 0, .null, .int 0, .int 0, .int 0, .int 0, .null, .int 0, .null, .null, .null, .int 0, .int 0])), (q_1, .inl (cI, 64, .inl g_38))] := hD
  refine lv_dup hx hb dX7_init_225 rfl ?_
  refine lv_bipush (v := 37) hx hb dX7_init_226 (by decide) ?_
  refine lv_bipush (v := 19) hx hb dX7_init_228 (by decide) ?_
  have h_39 : vp_in 37 64 := vp_in_iff.mpr (by decide)
  refine va_iast hx hb hK hP hD hS 1 1 rfl rfl h_39 dX7_init_230 (fun H locs hP hD hS => ?_)
  have hs_39 := pre_step (i := 37) hs_38 (37 : Int32) (19 : Int32) rfl rfl
  generalize upd g_38 (37 : Int32).toNatClampNeg 19 = g_39 at hP hD hs_39
  have hP : va_P D vwCl [(h, .inr (6, [.null, .null, .null, .null, .int 0, .null, .int 0, .int 0, .int 0, .int 0, .int 0, .int 0, .int 0, .int 0, .int 0, .int 0, .int 0, .int 0, .int 0, .int 0, .null, .int 0, .int 0, .int 0, .int 0, .null, .int 0, .null, .null, .null, .int 0, .int 0])), (q_1, .inl (cI, 64, .inl g_39))] H := hP
  have hD : va_D A [(h, .inr (6, [.null, .null, .null, .null, .int 0, .null, .int 0, .int 0, .int 0, .int 0, .int 0, .int 0, .int 0, .int 0, .int 0, .int 0, .int 0, .int 0, .int 0, .int 0, .null, .int 0, .int 0, .int 0, .int 0, .null, .int 0, .null, .null, .null, .int 0, .int 0])), (q_1, .inl (cI, 64, .inl g_39))] := hD
  refine lv_dup hx hb dX7_init_231 rfl ?_
  refine lv_bipush (v := 38) hx hb dX7_init_232 (by decide) ?_
  refine lv_bipush (v := 50) hx hb dX7_init_234 (by decide) ?_
  have h_40 : vp_in 38 64 := vp_in_iff.mpr (by decide)
  refine va_iast hx hb hK hP hD hS 1 1 rfl rfl h_40 dX7_init_236 (fun H locs hP hD hS => ?_)
  have hs_40 := pre_step (i := 38) hs_39 (38 : Int32) (50 : Int32) rfl rfl
  generalize upd g_39 (38 : Int32).toNatClampNeg 50 = g_40 at hP hD hs_40
  have hP : va_P D vwCl [(h, .inr (6, [.null, .null, .null, .null, .int 0, .null, .int 0, .int 0, .int 0, .int 0, .int 0, .int 0, .int 0, .int 0, .int 0, .int 0, .int 0, .int 0, .int 0, .int 0, .null, .int 0, .int 0, .int 0, .int 0, .null, .int 0, .null, .null, .null, .int 0, .int 0])), (q_1, .inl (cI, 64, .inl g_40))] H := hP
  have hD : va_D A [(h, .inr (6, [.null, .null, .null, .null, .int 0, .null, .int 0, .int 0, .int 0, .int 0, .int 0, .int 0, .int 0, .int 0, .int 0, .int 0, .int 0, .int 0, .int 0, .int 0, .null, .int 0, .int 0, .int 0, .int 0, .null, .int 0, .null, .null, .null, .int 0, .int 0])), (q_1, .inl (cI, 64, .inl g_40))] := hD
  refine lv_dup hx hb dX7_init_237 rfl ?_
  refine lv_bipush (v := 39) hx hb dX7_init_238 (by decide) ?_
  refine lv_bipush (v := 50) hx hb dX7_init_240 (by decide) ?_
  have h_41 : vp_in 39 64 := vp_in_iff.mpr (by decide)
  refine va_iast hx hb hK hP hD hS 1 1 rfl rfl h_41 dX7_init_242 (fun H locs hP hD hS => ?_)
  have hs_41 := pre_step (i := 39) hs_40 (39 : Int32) (50 : Int32) rfl rfl
  generalize upd g_40 (39 : Int32).toNatClampNeg 50 = g_41 at hP hD hs_41
  have hP : va_P D vwCl [(h, .inr (6, [.null, .null, .null, .null, .int 0, .null, .int 0, .int 0, .int 0, .int 0, .int 0, .int 0, .int 0, .int 0, .int 0, .int 0, .int 0, .int 0, .int 0, .int 0, .null, .int 0, .int 0, .int 0, .int 0, .null, .int 0, .null, .null, .null, .int 0, .int 0])), (q_1, .inl (cI, 64, .inl g_41))] H := hP
  have hD : va_D A [(h, .inr (6, [.null, .null, .null, .null, .int 0, .null, .int 0, .int 0, .int 0, .int 0, .int 0, .int 0, .int 0, .int 0, .int 0, .int 0, .int 0, .int 0, .int 0, .int 0, .null, .int 0, .int 0, .int 0, .int 0, .null, .int 0, .null, .null, .null, .int 0, .int 0])), (q_1, .inl (cI, 64, .inl g_41))] := hD
  refine lv_dup hx hb dX7_init_243 rfl ?_
  refine lv_bipush (v := 40) hx hb dX7_init_244 (by decide) ?_
  refine lv_bipush (v := 11) hx hb dX7_init_246 (by decide) ?_
  have h_42 : vp_in 40 64 := vp_in_iff.mpr (by decide)
  refine va_iast hx hb hK hP hD hS 1 1 rfl rfl h_42 dX7_init_248 (fun H locs hP hD hS => ?_)
  have hs_42 := pre_step (i := 40) hs_41 (40 : Int32) (11 : Int32) rfl rfl
  generalize upd g_41 (40 : Int32).toNatClampNeg 11 = g_42 at hP hD hs_42
  have hP : va_P D vwCl [(h, .inr (6, [.null, .null, .null, .null, .int 0, .null, .int 0, .int 0, .int 0, .int 0, .int 0, .int 0, .int 0, .int 0, .int 0, .int 0, .int 0, .int 0, .int 0, .int 0, .null, .int 0, .int 0, .int 0, .int 0, .null, .int 0, .null, .null, .null, .int 0, .int 0])), (q_1, .inl (cI, 64, .inl g_42))] H := hP
  have hD : va_D A [(h, .inr (6, [.null, .null, .null, .null, .int 0, .null, .int 0, .int 0, .int 0, .int 0, .int 0, .int 0, .int 0, .int 0, .int 0, .int 0, .int 0, .int 0, .int 0, .int 0, .null, .int 0, .int 0, .int 0, .int 0, .null, .int 0, .null, .null, .null, .int 0, .int 0])), (q_1, .inl (cI, 64, .inl g_42))] := hD
  refine lv_dup hx hb dX7_init_249 rfl ?_
  refine lv_bipush (v := 41) hx hb dX7_init_250 (by decide) ?_
  refine lv_bipush (v := 11) hx hb dX7_init_252 (by decide) ?_
  have h_43 : vp_in 41 64 := vp_in_iff.mpr (by decide)
  refine va_iast hx hb hK hP hD hS 1 1 rfl rfl h_43 dX7_init_254 (fun H locs hP hD hS => ?_)
  have hs_43 := pre_step (i := 41) hs_42 (41 : Int32) (11 : Int32) rfl rfl
  generalize upd g_42 (41 : Int32).toNatClampNeg 11 = g_43 at hP hD hs_43
  have hP : va_P D vwCl [(h, .inr (6, [.null, .null, .null, .null, .int 0, .null, .int 0, .int 0, .int 0, .int 0, .int 0, .int 0, .int 0, .int 0, .int 0, .int 0, .int 0, .int 0, .int 0, .int 0, .null, .int 0, .int 0, .int 0, .int 0, .null, .int 0, .null, .null, .null, .int 0, .int 0])), (q_1, .inl (cI, 64, .inl g_43))] H := hP
  have hD : va_D A [(h, .inr (6, [.null, .null, .null, .null, .int 0, .null, .int 0, .int 0, .int 0, .int 0, .int 0, .int 0, .int 0, .int 0, .int 0, .int 0, .int 0, .int 0, .int 0, .int 0, .null, .int 0, .int 0, .int 0, .int 0, .null, .int 0, .null, .null, .null, .int 0, .int 0])), (q_1, .inl (cI, 64, .inl g_43))] := hD
  refine lv_dup hx hb dX7_init_255 rfl ?_
  refine lv_bipush (v := 42) hx hb dX7_init_256 (by decide) ?_
  refine lv_bipush (v := 42) hx hb dX7_init_258 (by decide) ?_
  have h_44 : vp_in 42 64 := vp_in_iff.mpr (by decide)
  refine va_iast hx hb hK hP hD hS 1 1 rfl rfl h_44 dX7_init_260 (fun H locs hP hD hS => ?_)
  have hs_44 := pre_step (i := 42) hs_43 (42 : Int32) (42 : Int32) rfl rfl
  generalize upd g_43 (42 : Int32).toNatClampNeg 42 = g_44 at hP hD hs_44
  have hP : va_P D vwCl [(h, .inr (6, [.null, .null, .null, .null, .int 0, .null, .int 0, .int 0, .int 0, .int 0, .int 0, .int 0, .int 0, .int 0, .int 0, .int 0, .int 0, .int 0, .int 0, .int 0, .null, .int 0, .int 0, .int 0, .int 0, .null, .int 0, .null, .null, .null, .int 0, .int 0])), (q_1, .inl (cI, 64, .inl g_44))] H := hP
  have hD : va_D A [(h, .inr (6, [.null, .null, .null, .null, .int 0, .null, .int 0, .int 0, .int 0, .int 0, .int 0, .int 0, .int 0, .int 0, .int 0, .int 0, .int 0, .int 0, .int 0, .int 0, .null, .int 0, .int 0, .int 0, .int 0, .null, .int 0, .null, .null, .null, .int 0, .int 0])), (q_1, .inl (cI, 64, .inl g_44))] := hD
  refine lv_dup hx hb dX7_init_261 rfl ?_
  refine lv_bipush (v := 43) hx hb dX7_init_262 (by decide) ?_
  refine lv_bipush (v := 42) hx hb dX7_init_264 (by decide) ?_
  have h_45 : vp_in 43 64 := vp_in_iff.mpr (by decide)
  refine va_iast hx hb hK hP hD hS 1 1 rfl rfl h_45 dX7_init_266 (fun H locs hP hD hS => ?_)
  have hs_45 := pre_step (i := 43) hs_44 (43 : Int32) (42 : Int32) rfl rfl
  generalize upd g_44 (43 : Int32).toNatClampNeg 42 = g_45 at hP hD hs_45
  have hP : va_P D vwCl [(h, .inr (6, [.null, .null, .null, .null, .int 0, .null, .int 0, .int 0, .int 0, .int 0, .int 0, .int 0, .int 0, .int 0, .int 0, .int 0, .int 0, .int 0, .int 0, .int 0, .null, .int 0, .int 0, .int 0, .int 0, .null, .int 0, .null, .null, .null, .int 0, .int 0])), (q_1, .inl (cI, 64, .inl g_45))] H := hP
  have hD : va_D A [(h, .inr (6, [.null, .null, .null, .null, .int 0, .null, .int 0, .int 0, .int 0, .int 0, .int 0, .int 0, .int 0, .int 0, .int 0, .int 0, .int 0, .int 0, .int 0, .int 0, .null, .int 0, .int 0, .int 0, .int 0, .null, .int 0, .null, .null, .null, .int 0, .int 0])), (q_1, .inl (cI, 64, .inl g_45))] := hD
  refine lv_dup hx hb dX7_init_267 rfl ?_
  refine lv_bipush (v := 44) hx hb dX7_init_268 (by decide) ?_
  refine lv_bipush (v := 26) hx hb dX7_init_270 (by decide) ?_
  have h_46 : vp_in 44 64 := vp_in_iff.mpr (by decide)
  refine va_iast hx hb hK hP hD hS 1 1 rfl rfl h_46 dX7_init_272 (fun H locs hP hD hS => ?_)
  have hs_46 := pre_step (i := 44) hs_45 (44 : Int32) (26 : Int32) rfl rfl
  generalize upd g_45 (44 : Int32).toNatClampNeg 26 = g_46 at hP hD hs_46
  have hP : va_P D vwCl [(h, .inr (6, [.null, .null, .null, .null, .int 0, .null, .int 0, .int 0, .int 0, .int 0, .int 0, .int 0, .int 0, .int 0, .int 0, .int 0, .int 0, .int 0, .int 0, .int 0, .null, .int 0, .int 0, .int 0, .int 0, .null, .int 0, .null, .null, .null, .int 0, .int 0])), (q_1, .inl (cI, 64, .inl g_46))] H := hP
  have hD : va_D A [(h, .inr (6, [.null, .null, .null, .null, .int 0, .null, .int 0, .int 0, .int 0, .int 0, .int 0, .int 0, .int 0, .int 0, .int 0, .int 0, .int 0, .int 0, .int 0, .int 0, .null, .int 0, .int 0, .int 0, .int 0, .null, .int 0, .null, .null, .null, .int 0, .int 0])), (q_1, .inl (cI, 64, .inl g_46))] := hD
  refine lv_dup hx hb dX7_init_273 rfl ?_
  refine lv_bipush (v := 45) hx hb dX7_init_274 (by decide) ?_
  refine lv_bipush (v := 26) hx hb dX7_init_276 (by decide) ?_
  have h_47 : vp_in 45 64 := vp_in_iff.mpr (by decide)
  refine va_iast hx hb hK hP hD hS 1 1 rfl rfl h_47 dX7_init_278 (fun H locs hP hD hS => ?_)
  have hs_47 := pre_step (i := 45) hs_46 (45 : Int32) (26 : Int32) rfl rfl
  generalize upd g_46 (45 : Int32).toNatClampNeg 26 = g_47 at hP hD hs_47
  have hP : va_P D vwCl [(h, .inr (6, [.null, .null, .null, .null, .int 0, .null, .int 0, .int 0, .int 0, .int 0, .int 0, .int 0, .int 0, .int 0, .int 0, .int 0, .int 0, .int 0, .int 0, .int 0, .null, .int 0, .int 0, .int 0, .int 0, .null, .int 0, .null, .null, .null, .int 0, .int 0])), (q_1, .inl (cI, 64, .inl g_47))] H := hP
  have hD : va_D A [(h, .inr (6, [.null, .null, .null, .null, .int 0, .null, .int 0, .int 0, .int 0, .int 0, .int 0, .int 0, .int 0, .int 0, .int 0, .int 0, .int 0, .int 0, .int 0, .int 0, .null, .int 0, .int 0, .int 0, .int 0, .null, .int 0, .null, .null, .null, .int 0, .int 0])), (q_1, .inl (cI, 64, .inl g_47))] := hD
  refine lv_dup hx hb dX7_init_279 rfl ?_
  refine lv_bipush (v := 46) hx hb dX7_init_280 (by decide) ?_
  refine lv_bipush (v := 58) hx hb dX7_init_282 (by decide) ?_
  have h_48 : vp_in 46 64 := vp_in_iff.mpr (by decide)
  refine va_iast hx hb hK hP hD hS 1 1 rfl rfl h_48 dX7_init_284 (fun H locs hP hD hS => ?_)
  have hs_48 := pre_step (i := 46) hs_47 (46 : Int32) (58 : Int32) rfl rfl
  generalize upd g_47 (46 : Int32).toNatClampNeg 58 = g_48 at hP hD hs_48
  have hP : va_P D vwCl [(h, .inr (6, [.null, .null, .null, .null, .int 0, .null, .int 0, .int 0, .int 0, .int 0, .int 0, .int 0, .int 0, .int 0, .int 0, .int 0, .int 0, .int 0, .int 0, .int 0, .null, .int 0, .int 0, .int 0, .int 0, .null, .int 0, .null, .null, .null, .int 0, .int 0])), (q_1, .inl (cI, 64, .inl g_48))] H := hP
  have hD : va_D A [(h, .inr (6, [.null, .null, .null, .null, .int 0, .null, .int 0, .int 0, .int 0, .int 0, .int 0, .int 0, .int 0, .int 0, .int 0, .int 0, .int 0, .int 0, .int 0, .int 0, .null, .int 0, .int 0, .int 0, .int 0, .null, .int 0, .null, .null, .null, .int 0, .int 0])), (q_1, .inl (cI, 64, .inl g_48))] := hD
  refine lv_dup hx hb dX7_init_285 rfl ?_
  refine lv_bipush (v := 47) hx hb dX7_init_286 (by decide) ?_
  refine lv_iconst (v := 5) hx hb dX7_init_288 (by decide) ?_
  have h_49 : vp_in 47 64 := vp_in_iff.mpr (by decide)
  refine va_iast hx hb hK hP hD hS 1 1 rfl rfl h_49 dX7_init_289 (fun H locs hP hD hS => ?_)
  have hs_49 := pre_step (i := 47) hs_48 (47 : Int32) (5 : Int32) rfl rfl
  generalize upd g_48 (47 : Int32).toNatClampNeg 5 = g_49 at hP hD hs_49
  have hP : va_P D vwCl [(h, .inr (6, [.null, .null, .null, .null, .int 0, .null, .int 0, .int 0, .int 0, .int 0, .int 0, .int 0, .int 0, .int 0, .int 0, .int 0, .int 0, .int 0, .int 0, .int 0, .null, .int 0, .int 0, .int 0, .int 0, .null, .int 0, .null, .null, .null, .int 0, .int 0])), (q_1, .inl (cI, 64, .inl g_49))] H := hP
  have hD : va_D A [(h, .inr (6, [.null, .null, .null, .null, .int 0, .null, .int 0, .int 0, .int 0, .int 0, .int 0, .int 0, .int 0, .int 0, .int 0, .int 0, .int 0, .int 0, .int 0, .int 0, .null, .int 0, .int 0, .int 0, .int 0, .null, .int 0, .null, .null, .null, .int 0, .int 0])), (q_1, .inl (cI, 64, .inl g_49))] := hD
  refine lv_dup hx hb dX7_init_290 rfl ?_
  refine lv_bipush (v := 48) hx hb dX7_init_291 (by decide) ?_
  refine lv_bipush (v := 51) hx hb dX7_init_293 (by decide) ?_
  have h_50 : vp_in 48 64 := vp_in_iff.mpr (by decide)
  refine va_iast hx hb hK hP hD hS 1 1 rfl rfl h_50 dX7_init_295 (fun H locs hP hD hS => ?_)
  have hs_50 := pre_step (i := 48) hs_49 (48 : Int32) (51 : Int32) rfl rfl
  generalize upd g_49 (48 : Int32).toNatClampNeg 51 = g_50 at hP hD hs_50
  have hP : va_P D vwCl [(h, .inr (6, [.null, .null, .null, .null, .int 0, .null, .int 0, .int 0, .int 0, .int 0, .int 0, .int 0, .int 0, .int 0, .int 0, .int 0, .int 0, .int 0, .int 0, .int 0, .null, .int 0, .int 0, .int 0, .int 0, .null, .int 0, .null, .null, .null, .int 0, .int 0])), (q_1, .inl (cI, 64, .inl g_50))] H := hP
  have hD : va_D A [(h, .inr (6, [.null, .null, .null, .null, .int 0, .null, .int 0, .int 0, .int 0, .int 0, .int 0, .int 0, .int 0, .int 0, .int 0, .int 0, .int 0, .int 0, .int 0, .int 0, .null, .int 0, .int 0, .int 0, .int 0, .null, .int 0, .null, .null, .null, .int 0, .int 0])), (q_1, .inl (cI, 64, .inl g_50))] := hD
  refine lv_dup hx hb dX7_init_296 rfl ?_
  refine lv_bipush (v := 49) hx hb dX7_init_297 (by decide) ?_
  refine lv_bipush (v := 12) hx hb dX7_init_299 (by decide) ?_
  have h_51 : vp_in 49 64 := vp_in_iff.mpr (by decide)
  refine va_iast hx hb hK hP hD hS 1 1 rfl rfl h_51 dX7_init_301 (fun H locs hP hD hS => ?_)
  have hs_51 := pre_step (i := 49) hs_50 (49 : Int32) (12 : Int32) rfl rfl
  generalize upd g_50 (49 : Int32).toNatClampNeg 12 = g_51 at hP hD hs_51
  have hP : va_P D vwCl [(h, .inr (6, [.null, .null, .null, .null, .int 0, .null, .int 0, .int 0, .int 0, .int 0, .int 0, .int 0, .int 0, .int 0, .int 0, .int 0, .int 0, .int 0, .int 0, .int 0, .null, .int 0, .int 0, .int 0, .int 0, .null, .int 0, .null, .null, .null, .int 0, .int 0])), (q_1, .inl (cI, 64, .inl g_51))] H := hP
  have hD : va_D A [(h, .inr (6, [.null, .null, .null, .null, .int 0, .null, .int 0, .int 0, .int 0, .int 0, .int 0, .int 0, .int 0, .int 0, .int 0, .int 0, .int 0, .int 0, .int 0, .int 0, .null, .int 0, .int 0, .int 0, .int 0, .null, .int 0, .null, .null, .null, .int 0, .int 0])), (q_1, .inl (cI, 64, .inl g_51))] := hD
  refine lv_dup hx hb dX7_init_302 rfl ?_
  refine lv_bipush (v := 50) hx hb dX7_init_303 (by decide) ?_
  refine lv_bipush (v := 38) hx hb dX7_init_305 (by decide) ?_
  have h_52 : vp_in 50 64 := vp_in_iff.mpr (by decide)
  refine va_iast hx hb hK hP hD hS 1 1 rfl rfl h_52 dX7_init_307 (fun H locs hP hD hS => ?_)
  have hs_52 := pre_step (i := 50) hs_51 (50 : Int32) (38 : Int32) rfl rfl
  generalize upd g_51 (50 : Int32).toNatClampNeg 38 = g_52 at hP hD hs_52
  have hP : va_P D vwCl [(h, .inr (6, [.null, .null, .null, .null, .int 0, .null, .int 0, .int 0, .int 0, .int 0, .int 0, .int 0, .int 0, .int 0, .int 0, .int 0, .int 0, .int 0, .int 0, .int 0, .null, .int 0, .int 0, .int 0, .int 0, .null, .int 0, .null, .null, .null, .int 0, .int 0])), (q_1, .inl (cI, 64, .inl g_52))] H := hP
  have hD : va_D A [(h, .inr (6, [.null, .null, .null, .null, .int 0, .null, .int 0, .int 0, .int 0, .int 0, .int 0, .int 0, .int 0, .int 0, .int 0, .int 0, .int 0, .int 0, .int 0, .int 0, .null, .int 0, .int 0, .int 0, .int 0, .null, .int 0, .null, .null, .null, .int 0, .int 0])), (q_1, .inl (cI, 64, .inl g_52))] := hD
  refine lv_dup hx hb dX7_init_308 rfl ?_
  refine lv_bipush (v := 51) hx hb dX7_init_309 (by decide) ?_
  refine lv_bipush (v := 38) hx hb dX7_init_311 (by decide) ?_
  have h_53 : vp_in 51 64 := vp_in_iff.mpr (by decide)
  refine va_iast hx hb hK hP hD hS 1 1 rfl rfl h_53 dX7_init_313 (fun H locs hP hD hS => ?_)
  have hs_53 := pre_step (i := 51) hs_52 (51 : Int32) (38 : Int32) rfl rfl
  generalize upd g_52 (51 : Int32).toNatClampNeg 38 = g_53 at hP hD hs_53
  have hP : va_P D vwCl [(h, .inr (6, [.null, .null, .null, .null, .int 0, .null, .int 0, .int 0, .int 0, .int 0, .int 0, .int 0, .int 0, .int 0, .int 0, .int 0, .int 0, .int 0, .int 0, .int 0, .null, .int 0, .int 0, .int 0, .int 0, .null, .int 0, .null, .null, .null, .int 0, .int 0])), (q_1, .inl (cI, 64, .inl g_53))] H := hP
  have hD : va_D A [(h, .inr (6, [.null, .null, .null, .null, .int 0, .null, .int 0, .int 0, .int 0, .int 0, .int 0, .int 0, .int 0, .int 0, .int 0, .int 0, .int 0, .int 0, .int 0, .int 0, .null, .int 0, .int 0, .int 0, .int 0, .null, .int 0, .null, .null, .null, .int 0, .int 0])), (q_1, .inl (cI, 64, .inl g_53))] := hD
  refine lv_dup hx hb dX7_init_314 rfl ?_
  refine lv_bipush (v := 52) hx hb dX7_init_315 (by decide) ?_
  refine lv_bipush (v := 22) hx hb dX7_init_317 (by decide) ?_
  have h_54 : vp_in 52 64 := vp_in_iff.mpr (by decide)
  refine va_iast hx hb hK hP hD hS 1 1 rfl rfl h_54 dX7_init_319 (fun H locs hP hD hS => ?_)
  have hs_54 := pre_step (i := 52) hs_53 (52 : Int32) (22 : Int32) rfl rfl
  generalize upd g_53 (52 : Int32).toNatClampNeg 22 = g_54 at hP hD hs_54
  have hP : va_P D vwCl [(h, .inr (6, [.null, .null, .null, .null, .int 0, .null, .int 0, .int 0, .int 0, .int 0, .int 0, .int 0, .int 0, .int 0, .int 0, .int 0, .int 0, .int 0, .int 0, .int 0, .null, .int 0, .int 0, .int 0, .int 0, .null, .int 0, .null, .null, .null, .int 0, .int 0])), (q_1, .inl (cI, 64, .inl g_54))] H := hP
  have hD : va_D A [(h, .inr (6, [.null, .null, .null, .null, .int 0, .null, .int 0, .int 0, .int 0, .int 0, .int 0, .int 0, .int 0, .int 0, .int 0, .int 0, .int 0, .int 0, .int 0, .int 0, .null, .int 0, .int 0, .int 0, .int 0, .null, .int 0, .null, .null, .null, .int 0, .int 0])), (q_1, .inl (cI, 64, .inl g_54))] := hD
  refine lv_dup hx hb dX7_init_320 rfl ?_
  refine lv_bipush (v := 53) hx hb dX7_init_321 (by decide) ?_
  refine lv_bipush (v := 22) hx hb dX7_init_323 (by decide) ?_
  have h_55 : vp_in 53 64 := vp_in_iff.mpr (by decide)
  refine va_iast hx hb hK hP hD hS 1 1 rfl rfl h_55 dX7_init_325 (fun H locs hP hD hS => ?_)
  have hs_55 := pre_step (i := 53) hs_54 (53 : Int32) (22 : Int32) rfl rfl
  generalize upd g_54 (53 : Int32).toNatClampNeg 22 = g_55 at hP hD hs_55
  have hP : va_P D vwCl [(h, .inr (6, [.null, .null, .null, .null, .int 0, .null, .int 0, .int 0, .int 0, .int 0, .int 0, .int 0, .int 0, .int 0, .int 0, .int 0, .int 0, .int 0, .int 0, .int 0, .null, .int 0, .int 0, .int 0, .int 0, .null, .int 0, .null, .null, .null, .int 0, .int 0])), (q_1, .inl (cI, 64, .inl g_55))] H := hP
  have hD : va_D A [(h, .inr (6, [.null, .null, .null, .null, .int 0, .null, .int 0, .int 0, .int 0, .int 0, .int 0, .int 0, .int 0, .int 0, .int 0, .int 0, .int 0, .int 0, .int 0, .int 0, .null, .int 0, .int 0, .int 0, .int 0, .null, .int 0, .null, .null, .null, .int 0, .int 0])), (q_1, .inl (cI, 64, .inl g_55))] := hD
  refine lv_dup hx hb dX7_init_326 rfl ?_
  refine lv_bipush (v := 54) hx hb dX7_init_327 (by decide) ?_
  refine lv_bipush (v := 54) hx hb dX7_init_329 (by decide) ?_
  have h_56 : vp_in 54 64 := vp_in_iff.mpr (by decide)
  refine va_iast hx hb hK hP hD hS 1 1 rfl rfl h_56 dX7_init_331 (fun H locs hP hD hS => ?_)
  have hs_56 := pre_step (i := 54) hs_55 (54 : Int32) (54 : Int32) rfl rfl
  generalize upd g_55 (54 : Int32).toNatClampNeg 54 = g_56 at hP hD hs_56
  have hP : va_P D vwCl [(h, .inr (6, [.null, .null, .null, .null, .int 0, .null, .int 0, .int 0, .int 0, .int 0, .int 0, .int 0, .int 0, .int 0, .int 0, .int 0, .int 0, .int 0, .int 0, .int 0, .null, .int 0, .int 0, .int 0, .int 0, .null, .int 0, .null, .null, .null, .int 0, .int 0])), (q_1, .inl (cI, 64, .inl g_56))] H := hP
  have hD : va_D A [(h, .inr (6, [.null, .null, .null, .null, .int 0, .null, .int 0, .int 0, .int 0, .int 0, .int 0, .int 0, .int 0, .int 0, .int 0, .int 0, .int 0, .int 0, .int 0, .int 0, .null, .int 0, .int 0, .int 0, .int 0, .null, .int 0, .null, .null, .null, .int 0, .int 0])), (q_1, .inl (cI, 64, .inl g_56))] := hD
  refine lv_dup hx hb dX7_init_332 rfl ?_
  refine lv_bipush (v := 55) hx hb dX7_init_333 (by decide) ?_
  refine lv_bipush (v := 9) hx hb dX7_init_335 (by decide) ?_
  have h_57 : vp_in 55 64 := vp_in_iff.mpr (by decide)
  refine va_iast hx hb hK hP hD hS 1 1 rfl rfl h_57 dX7_init_337 (fun H locs hP hD hS => ?_)
  have hs_57 := pre_step (i := 55) hs_56 (55 : Int32) (9 : Int32) rfl rfl
  generalize upd g_56 (55 : Int32).toNatClampNeg 9 = g_57 at hP hD hs_57
  have hP : va_P D vwCl [(h, .inr (6, [.null, .null, .null, .null, .int 0, .null, .int 0, .int 0, .int 0, .int 0, .int 0, .int 0, .int 0, .int 0, .int 0, .int 0, .int 0, .int 0, .int 0, .int 0, .null, .int 0, .int 0, .int 0, .int 0, .null, .int 0, .null, .null, .null, .int 0, .int 0])), (q_1, .inl (cI, 64, .inl g_57))] H := hP
  have hD : va_D A [(h, .inr (6, [.null, .null, .null, .null, .int 0, .null, .int 0, .int 0, .int 0, .int 0, .int 0, .int 0, .int 0, .int 0, .int 0, .int 0, .int 0, .int 0, .int 0, .int 0, .null, .int 0, .int 0, .int 0, .int 0, .null, .int 0, .null, .null, .null, .int 0, .int 0])), (q_1, .inl (cI, 64, .inl g_57))] := hD
  refine lv_dup hx hb dX7_init_338 rfl ?_
  refine lv_bipush (v := 56) hx hb dX7_init_339 (by decide) ?_
  refine lv_bipush (v := 14) hx hb dX7_init_341 (by decide) ?_
  have h_58 : vp_in 56 64 := vp_in_iff.mpr (by decide)
  refine va_iast hx hb hK hP hD hS 1 1 rfl rfl h_58 dX7_init_343 (fun H locs hP hD hS => ?_)
  have hs_58 := pre_step (i := 56) hs_57 (56 : Int32) (14 : Int32) rfl rfl
  generalize upd g_57 (56 : Int32).toNatClampNeg 14 = g_58 at hP hD hs_58
  have hP : va_P D vwCl [(h, .inr (6, [.null, .null, .null, .null, .int 0, .null, .int 0, .int 0, .int 0, .int 0, .int 0, .int 0, .int 0, .int 0, .int 0, .int 0, .int 0, .int 0, .int 0, .int 0, .null, .int 0, .int 0, .int 0, .int 0, .null, .int 0, .null, .null, .null, .int 0, .int 0])), (q_1, .inl (cI, 64, .inl g_58))] H := hP
  have hD : va_D A [(h, .inr (6, [.null, .null, .null, .null, .int 0, .null, .int 0, .int 0, .int 0, .int 0, .int 0, .int 0, .int 0, .int 0, .int 0, .int 0, .int 0, .int 0, .int 0, .int 0, .null, .int 0, .int 0, .int 0, .int 0, .null, .int 0, .null, .null, .null, .int 0, .int 0])), (q_1, .inl (cI, 64, .inl g_58))] := hD
  refine lv_dup hx hb dX7_init_344 rfl ?_
  refine lv_bipush (v := 57) hx hb dX7_init_345 (by decide) ?_
  refine lv_bipush (v := 14) hx hb dX7_init_347 (by decide) ?_
  have h_59 : vp_in 57 64 := vp_in_iff.mpr (by decide)
  refine va_iast hx hb hK hP hD hS 1 1 rfl rfl h_59 dX7_init_349 (fun H locs hP hD hS => ?_)
  have hs_59 := pre_step (i := 57) hs_58 (57 : Int32) (14 : Int32) rfl rfl
  generalize upd g_58 (57 : Int32).toNatClampNeg 14 = g_59 at hP hD hs_59
  have hP : va_P D vwCl [(h, .inr (6, [.null, .null, .null, .null, .int 0, .null, .int 0, .int 0, .int 0, .int 0, .int 0, .int 0, .int 0, .int 0, .int 0, .int 0, .int 0, .int 0, .int 0, .int 0, .null, .int 0, .int 0, .int 0, .int 0, .null, .int 0, .null, .null, .null, .int 0, .int 0])), (q_1, .inl (cI, 64, .inl g_59))] H := hP
  have hD : va_D A [(h, .inr (6, [.null, .null, .null, .null, .int 0, .null, .int 0, .int 0, .int 0, .int 0, .int 0, .int 0, .int 0, .int 0, .int 0, .int 0, .int 0, .int 0, .int 0, .int 0, .null, .int 0, .int 0, .int 0, .int 0, .null, .int 0, .null, .null, .null, .int 0, .int 0])), (q_1, .inl (cI, 64, .inl g_59))] := hD
  refine lv_dup hx hb dX7_init_350 rfl ?_
  refine lv_bipush (v := 58) hx hb dX7_init_351 (by decide) ?_
  refine lv_bipush (v := 46) hx hb dX7_init_353 (by decide) ?_
  have h_60 : vp_in 58 64 := vp_in_iff.mpr (by decide)
  refine va_iast hx hb hK hP hD hS 1 1 rfl rfl h_60 dX7_init_355 (fun H locs hP hD hS => ?_)
  have hs_60 := pre_step (i := 58) hs_59 (58 : Int32) (46 : Int32) rfl rfl
  generalize upd g_59 (58 : Int32).toNatClampNeg 46 = g_60 at hP hD hs_60
  have hP : va_P D vwCl [(h, .inr (6, [.null, .null, .null, .null, .int 0, .null, .int 0, .int 0, .int 0, .int 0, .int 0, .int 0, .int 0, .int 0, .int 0, .int 0, .int 0, .int 0, .int 0, .int 0, .null, .int 0, .int 0, .int 0, .int 0, .null, .int 0, .null, .null, .null, .int 0, .int 0])), (q_1, .inl (cI, 64, .inl g_60))] H := hP
  have hD : va_D A [(h, .inr (6, [.null, .null, .null, .null, .int 0, .null, .int 0, .int 0, .int 0, .int 0, .int 0, .int 0, .int 0, .int 0, .int 0, .int 0, .int 0, .int 0, .int 0, .int 0, .null, .int 0, .int 0, .int 0, .int 0, .null, .int 0, .null, .null, .null, .int 0, .int 0])), (q_1, .inl (cI, 64, .inl g_60))] := hD
  refine lv_dup hx hb dX7_init_356 rfl ?_
  refine lv_bipush (v := 59) hx hb dX7_init_357 (by decide) ?_
  refine lv_bipush (v := 17) hx hb dX7_init_359 (by decide) ?_
  have h_61 : vp_in 59 64 := vp_in_iff.mpr (by decide)
  refine va_iast hx hb hK hP hD hS 1 1 rfl rfl h_61 dX7_init_361 (fun H locs hP hD hS => ?_)
  have hs_61 := pre_step (i := 59) hs_60 (59 : Int32) (17 : Int32) rfl rfl
  generalize upd g_60 (59 : Int32).toNatClampNeg 17 = g_61 at hP hD hs_61
  have hP : va_P D vwCl [(h, .inr (6, [.null, .null, .null, .null, .int 0, .null, .int 0, .int 0, .int 0, .int 0, .int 0, .int 0, .int 0, .int 0, .int 0, .int 0, .int 0, .int 0, .int 0, .int 0, .null, .int 0, .int 0, .int 0, .int 0, .null, .int 0, .null, .null, .null, .int 0, .int 0])), (q_1, .inl (cI, 64, .inl g_61))] H := hP
  have hD : va_D A [(h, .inr (6, [.null, .null, .null, .null, .int 0, .null, .int 0, .int 0, .int 0, .int 0, .int 0, .int 0, .int 0, .int 0, .int 0, .int 0, .int 0, .int 0, .int 0, .int 0, .null, .int 0, .int 0, .int 0, .int 0, .null, .int 0, .null, .null, .null, .int 0, .int 0])), (q_1, .inl (cI, 64, .inl g_61))] := hD
  refine lv_dup hx hb dX7_init_362 rfl ?_
  refine lv_bipush (v := 60) hx hb dX7_init_363 (by decide) ?_
  refine lv_bipush (v := 30) hx hb dX7_init_365 (by decide) ?_
  have h_62 : vp_in 60 64 := vp_in_iff.mpr (by decide)
  refine va_iast hx hb hK hP hD hS 1 1 rfl rfl h_62 dX7_init_367 (fun H locs hP hD hS => ?_)
  have hs_62 := pre_step (i := 60) hs_61 (60 : Int32) (30 : Int32) rfl rfl
  generalize upd g_61 (60 : Int32).toNatClampNeg 30 = g_62 at hP hD hs_62
  have hP : va_P D vwCl [(h, .inr (6, [.null, .null, .null, .null, .int 0, .null, .int 0, .int 0, .int 0, .int 0, .int 0, .int 0, .int 0, .int 0, .int 0, .int 0, .int 0, .int 0, .int 0, .int 0, .null, .int 0, .int 0, .int 0, .int 0, .null, .int 0, .null, .null, .null, .int 0, .int 0])), (q_1, .inl (cI, 64, .inl g_62))] H := hP
  have hD : va_D A [(h, .inr (6, [.null, .null, .null, .null, .int 0, .null, .int 0, .int 0, .int 0, .int 0, .int 0, .int 0, .int 0, .int 0, .int 0, .int 0, .int 0, .int 0, .int 0, .int 0, .null, .int 0, .int 0, .int 0, .int 0, .null, .int 0, .null, .null, .null, .int 0, .int 0])), (q_1, .inl (cI, 64, .inl g_62))] := hD
  refine lv_dup hx hb dX7_init_368 rfl ?_
  refine lv_bipush (v := 61) hx hb dX7_init_369 (by decide) ?_
  refine lv_bipush (v := 33) hx hb dX7_init_371 (by decide) ?_
  have h_63 : vp_in 61 64 := vp_in_iff.mpr (by decide)
  refine va_iast hx hb hK hP hD hS 1 1 rfl rfl h_63 dX7_init_373 (fun H locs hP hD hS => ?_)
  have hs_63 := pre_step (i := 61) hs_62 (61 : Int32) (33 : Int32) rfl rfl
  generalize upd g_62 (61 : Int32).toNatClampNeg 33 = g_63 at hP hD hs_63
  have hP : va_P D vwCl [(h, .inr (6, [.null, .null, .null, .null, .int 0, .null, .int 0, .int 0, .int 0, .int 0, .int 0, .int 0, .int 0, .int 0, .int 0, .int 0, .int 0, .int 0, .int 0, .int 0, .null, .int 0, .int 0, .int 0, .int 0, .null, .int 0, .null, .null, .null, .int 0, .int 0])), (q_1, .inl (cI, 64, .inl g_63))] H := hP
  have hD : va_D A [(h, .inr (6, [.null, .null, .null, .null, .int 0, .null, .int 0, .int 0, .int 0, .int 0, .int 0, .int 0, .int 0, .int 0, .int 0, .int 0, .int 0, .int 0, .int 0, .int 0, .null, .int 0, .int 0, .int 0, .int 0, .null, .int 0, .null, .null, .null, .int 0, .int 0])), (q_1, .inl (cI, 64, .inl g_63))] := hD
  refine lv_dup hx hb dX7_init_374 rfl ?_
  refine lv_bipush (v := 62) hx hb dX7_init_375 (by decide) ?_
  refine lv_bipush (v := 43) hx hb dX7_init_377 (by decide) ?_
  have h_64 : vp_in 62 64 := vp_in_iff.mpr (by decide)
  refine va_iast hx hb hK hP hD hS 1 1 rfl rfl h_64 dX7_init_379 (fun H locs hP hD hS => ?_)
  have hs_64 := pre_step (i := 62) hs_63 (62 : Int32) (43 : Int32) rfl rfl
  generalize upd g_63 (62 : Int32).toNatClampNeg 43 = g_64 at hP hD hs_64
  have hP : va_P D vwCl [(h, .inr (6, [.null, .null, .null, .null, .int 0, .null, .int 0, .int 0, .int 0, .int 0, .int 0, .int 0, .int 0, .int 0, .int 0, .int 0, .int 0, .int 0, .int 0, .int 0, .null, .int 0, .int 0, .int 0, .int 0, .null, .int 0, .null, .null, .null, .int 0, .int 0])), (q_1, .inl (cI, 64, .inl g_64))] H := hP
  have hD : va_D A [(h, .inr (6, [.null, .null, .null, .null, .int 0, .null, .int 0, .int 0, .int 0, .int 0, .int 0, .int 0, .int 0, .int 0, .int 0, .int 0, .int 0, .int 0, .int 0, .int 0, .null, .int 0, .int 0, .int 0, .int 0, .null, .int 0, .null, .null, .null, .int 0, .int 0])), (q_1, .inl (cI, 64, .inl g_64))] := hD
  refine lv_dup hx hb dX7_init_380 rfl ?_
  refine lv_bipush (v := 63) hx hb dX7_init_381 (by decide) ?_
  refine lv_bipush (v := 20) hx hb dX7_init_383 (by decide) ?_
  have h_65 : vp_in 63 64 := vp_in_iff.mpr (by decide)
  refine va_iast hx hb hK hP hD hS 1 1 rfl rfl h_65 dX7_init_385 (fun H locs hP hD hS => ?_)
  have hs_65 := pre_step (i := 63) hs_64 (63 : Int32) (20 : Int32) rfl rfl
  generalize upd g_64 (63 : Int32).toNatClampNeg 20 = g_65 at hP hD hs_65
  have hP : va_P D vwCl [(h, .inr (6, [.null, .null, .null, .null, .int 0, .null, .int 0, .int 0, .int 0, .int 0, .int 0, .int 0, .int 0, .int 0, .int 0, .int 0, .int 0, .int 0, .int 0, .int 0, .null, .int 0, .int 0, .int 0, .int 0, .null, .int 0, .null, .null, .null, .int 0, .int 0])), (q_1, .inl (cI, 64, .inl g_65))] H := hP
  have hD : va_D A [(h, .inr (6, [.null, .null, .null, .null, .int 0, .null, .int 0, .int 0, .int 0, .int 0, .int 0, .int 0, .int 0, .int 0, .int 0, .int 0, .int 0, .int 0, .int 0, .int 0, .null, .int 0, .int 0, .int 0, .int 0, .null, .int 0, .null, .null, .null, .int 0, .int 0])), (q_1, .inl (cI, 64, .inl g_65))] := hD
  refine va_putF (D := D) (ci := 6) (v := .ref q_1) (ty := (.array .int)) (C := RX7) (T := TX7) (N := 32) hx hb hts hiX7 tyX7 tyX7_ok nmX7 hown hK hP hD hS 0 rfl rfl 0 (by decide) k7 (fun _ h9 => h9) rfl hin rfl (by decide +kernel) rfl rfl (Nat.le_of_ble_eq_true rfl) dX7_init_386 (fun H locs hP hD hS => ?_)
  have hP : va_P D vwCl [(h, .inr (6, [.ref q_1, .null, .null, .null, .int 0, .null, .int 0, .int 0, .int 0, .int 0, .int 0, .int 0, .int 0, .int 0, .int 0, .int 0, .int 0, .int 0, .int 0, .int 0, .null, .int 0, .int 0, .int 0, .int 0, .null, .int 0, .null, .null, .null, .int 0, .int 0])), (q_1, .inl (cI, 64, .inl g_65))] H := hP
  have hD : va_D A [(h, .inr (6, [.ref q_1, .null, .null, .null, .int 0, .null, .int 0, .int 0, .int 0, .int 0, .int 0, .int 0, .int 0, .int 0, .int 0, .int 0, .int 0, .int 0, .int 0, .int 0, .null, .int 0, .int 0, .int 0, .int 0, .null, .int 0, .null, .null, .null, .int 0, .int 0])), (q_1, .inl (cI, 64, .inl g_65))] := hD
  refine lv_aload_n hx hb dX7_init_389 rfl (lv_at hl 0 rfl) ?_
  refine lv_bipush (v := 16) hx hb dX7_init_390 (by decide) ?_
  refine knew_int hx hb ka_int hK hP hD hS hA (N := 16) (by decide) (by decide) (Nat.le_of_ble_eq_true rfl) (Nat.le_of_ble_eq_true rfl) (Nat.le_of_ble_eq_true rfl) dX7_init_392 (fun q_66 H hP hD hS => ?_)
  have hP : va_P D vwCl [(h, .inr (6, [.ref q_1, .null, .null, .null, .int 0, .null, .int 0, .int 0, .int 0, .int 0, .int 0, .int 0, .int 0, .int 0, .int 0, .int 0, .int 0, .int 0, .int 0, .int 0, .null, .int 0, .int 0, .int 0, .int 0, .null, .int 0, .null, .null, .null, .int 0, .int 0])), (q_1, .inl (cI, 64, .inl g_65)), (q_66, .inl (cI, 16, .inl (fun _ => 0)))] H := hP
  have hD : va_D A [(h, .inr (6, [.ref q_1, .null, .null, .null, .int 0, .null, .int 0, .int 0, .int 0, .int 0, .int 0, .int 0, .int 0, .int 0, .int 0, .int 0, .int 0, .int 0, .int 0, .int 0, .null, .int 0, .int 0, .int 0, .int 0, .null, .int 0, .null, .null, .null, .int 0, .int 0])), (q_1, .inl (cI, 64, .inl g_65)), (q_66, .inl (cI, 16, .inl (fun _ => 0)))] := hD
  refine W.widen (k := 2) (n := 80) (Nat.le_of_ble_eq_true rfl) (Nat.le_of_ble_eq_true rfl) ?_
  refine lv_dup hx hb dX7_init_394 rfl ?_
  refine lv_iconst (v := 0) hx hb dX7_init_395 (by decide) ?_
  refine lv_bipush (v := 11) hx hb dX7_init_396 (by decide) ?_
  have h_67 : vp_in 0 16 := vp_in_iff.mpr (by decide)
  refine va_iast hx hb hK hP hD hS 2 1 rfl rfl h_67 dX7_init_398 (fun H locs hP hD hS => ?_)
  have hs_67 := pre_zero k_four (0 : Int32) (11 : Int32) (fun _ => 0) rfl rfl
  generalize upd (fun _ => 0) (0 : Int32).toNatClampNeg 11 = g_67 at hP hD hs_67
  have hP : va_P D vwCl [(h, .inr (6, [.ref q_1, .null, .null, .null, .int 0, .null, .int 0, .int 0, .int 0, .int 0, .int 0, .int 0, .int 0, .int 0, .int 0, .int 0, .int 0, .int 0, .int 0, .int 0, .null, .int 0, .int 0, .int 0, .int 0, .null, .int 0, .null, .null, .null, .int 0, .int 0])), (q_1, .inl (cI, 64, .inl g_65)), (q_66, .inl (cI, 16, .inl g_67))] H := hP
  have hD : va_D A [(h, .inr (6, [.ref q_1, .null, .null, .null, .int 0, .null, .int 0, .int 0, .int 0, .int 0, .int 0, .int 0, .int 0, .int 0, .int 0, .int 0, .int 0, .int 0, .int 0, .int 0, .null, .int 0, .int 0, .int 0, .int 0, .null, .int 0, .null, .null, .null, .int 0, .int 0])), (q_1, .inl (cI, 64, .inl g_65)), (q_66, .inl (cI, 16, .inl g_67))] := hD
  refine lv_dup hx hb dX7_init_399 rfl ?_
  refine lv_iconst (v := 1) hx hb dX7_init_400 (by decide) ?_
  refine lv_iconst (v := 4) hx hb dX7_init_401 (by decide) ?_
  have h_68 : vp_in 1 16 := vp_in_iff.mpr (by decide)
  refine va_iast hx hb hK hP hD hS 2 1 rfl rfl h_68 dX7_init_402 (fun H locs hP hD hS => ?_)
  have hs_68 := pre_step (i := 1) hs_67 (1 : Int32) (4 : Int32) rfl rfl
  generalize upd g_67 (1 : Int32).toNatClampNeg 4 = g_68 at hP hD hs_68
  have hP : va_P D vwCl [(h, .inr (6, [.ref q_1, .null, .null, .null, .int 0, .null, .int 0, .int 0, .int 0, .int 0, .int 0, .int 0, .int 0, .int 0, .int 0, .int 0, .int 0, .int 0, .int 0, .int 0, .null, .int 0, .int 0, .int 0, .int 0, .null, .int 0, .null, .null, .null, .int 0, .int 0])), (q_1, .inl (cI, 64, .inl g_65)), (q_66, .inl (cI, 16, .inl g_68))] H := hP
  have hD : va_D A [(h, .inr (6, [.ref q_1, .null, .null, .null, .int 0, .null, .int 0, .int 0, .int 0, .int 0, .int 0, .int 0, .int 0, .int 0, .int 0, .int 0, .int 0, .int 0, .int 0, .int 0, .null, .int 0, .int 0, .int 0, .int 0, .null, .int 0, .null, .null, .null, .int 0, .int 0])), (q_1, .inl (cI, 64, .inl g_65)), (q_66, .inl (cI, 16, .inl g_68))] := hD
  refine lv_dup hx hb dX7_init_403 rfl ?_
  refine lv_iconst (v := 2) hx hb dX7_init_404 (by decide) ?_
  refine lv_bipush (v := 9) hx hb dX7_init_405 (by decide) ?_
  have h_69 : vp_in 2 16 := vp_in_iff.mpr (by decide)
  refine va_iast hx hb hK hP hD hS 2 1 rfl rfl h_69 dX7_init_407 (fun H locs hP hD hS => ?_)
  have hs_69 := pre_step (i := 2) hs_68 (2 : Int32) (9 : Int32) rfl rfl
  generalize upd g_68 (2 : Int32).toNatClampNeg 9 = g_69 at hP hD hs_69
  have hP : va_P D vwCl [(h, .inr (6, [.ref q_1, .null, .null, .null, .int 0, .null, .int 0, .int 0, .int 0, .int 0, .int 0, .int 0, .int 0, .int 0, .int 0, .int 0, .int 0, .int 0, .int 0, .int 0, .null, .int 0, .int 0, .int 0, .int 0, .null, .int 0, .null, .null, .null, .int 0, .int 0])), (q_1, .inl (cI, 64, .inl g_65)), (q_66, .inl (cI, 16, .inl g_69))] H := hP
  have hD : va_D A [(h, .inr (6, [.ref q_1, .null, .null, .null, .int 0, .null, .int 0, .int 0, .int 0, .int 0, .int 0, .int 0, .int 0, .int 0, .int 0, .int 0, .int 0, .int 0, .int 0, .int 0, .null, .int 0, .int 0, .int 0, .int 0, .null, .int 0, .null, .null, .null, .int 0, .int 0])), (q_1, .inl (cI, 64, .inl g_65)), (q_66, .inl (cI, 16, .inl g_69))] := hD
  refine lv_dup hx hb dX7_init_408 rfl ?_
  refine lv_iconst (v := 3) hx hb dX7_init_409 (by decide) ?_
  refine lv_bipush (v := 9) hx hb dX7_init_410 (by decide) ?_
  have h_70 : vp_in 3 16 := vp_in_iff.mpr (by decide)
  refine va_iast hx hb hK hP hD hS 2 1 rfl rfl h_70 dX7_init_412 (fun H locs hP hD hS => ?_)
  have hs_70 := pre_step (i := 3) hs_69 (3 : Int32) (9 : Int32) rfl rfl
  generalize upd g_69 (3 : Int32).toNatClampNeg 9 = g_70 at hP hD hs_70
  have hP : va_P D vwCl [(h, .inr (6, [.ref q_1, .null, .null, .null, .int 0, .null, .int 0, .int 0, .int 0, .int 0, .int 0, .int 0, .int 0, .int 0, .int 0, .int 0, .int 0, .int 0, .int 0, .int 0, .null, .int 0, .int 0, .int 0, .int 0, .null, .int 0, .null, .null, .null, .int 0, .int 0])), (q_1, .inl (cI, 64, .inl g_65)), (q_66, .inl (cI, 16, .inl g_70))] H := hP
  have hD : va_D A [(h, .inr (6, [.ref q_1, .null, .null, .null, .int 0, .null, .int 0, .int 0, .int 0, .int 0, .int 0, .int 0, .int 0, .int 0, .int 0, .int 0, .int 0, .int 0, .int 0, .int 0, .null, .int 0, .int 0, .int 0, .int 0, .null, .int 0, .null, .null, .null, .int 0, .int 0])), (q_1, .inl (cI, 64, .inl g_65)), (q_66, .inl (cI, 16, .inl g_70))] := hD
  refine lv_dup hx hb dX7_init_413 rfl ?_
  refine lv_iconst (v := 4) hx hb dX7_init_414 (by decide) ?_
  refine lv_iconst (v := 5) hx hb dX7_init_415 (by decide) ?_
  have h_71 : vp_in 4 16 := vp_in_iff.mpr (by decide)
  refine va_iast hx hb hK hP hD hS 2 1 rfl rfl h_71 dX7_init_416 (fun H locs hP hD hS => ?_)
  have hs_71 := pre_step (i := 4) hs_70 (4 : Int32) (5 : Int32) rfl rfl
  generalize upd g_70 (4 : Int32).toNatClampNeg 5 = g_71 at hP hD hs_71
  have hP : va_P D vwCl [(h, .inr (6, [.ref q_1, .null, .null, .null, .int 0, .null, .int 0, .int 0, .int 0, .int 0, .int 0, .int 0, .int 0, .int 0, .int 0, .int 0, .int 0, .int 0, .int 0, .int 0, .null, .int 0, .int 0, .int 0, .int 0, .null, .int 0, .null, .null, .null, .int 0, .int 0])), (q_1, .inl (cI, 64, .inl g_65)), (q_66, .inl (cI, 16, .inl g_71))] H := hP
  have hD : va_D A [(h, .inr (6, [.ref q_1, .null, .null, .null, .int 0, .null, .int 0, .int 0, .int 0, .int 0, .int 0, .int 0, .int 0, .int 0, .int 0, .int 0, .int 0, .int 0, .int 0, .int 0, .null, .int 0, .int 0, .int 0, .int 0, .null, .int 0, .null, .null, .null, .int 0, .int 0])), (q_1, .inl (cI, 64, .inl g_65)), (q_66, .inl (cI, 16, .inl g_71))] := hD
  refine lv_dup hx hb dX7_init_417 rfl ?_
  refine lv_iconst (v := 5) hx hb dX7_init_418 (by decide) ?_
  refine lv_iconst (v := 5) hx hb dX7_init_419 (by decide) ?_
  have h_72 : vp_in 5 16 := vp_in_iff.mpr (by decide)
  refine va_iast hx hb hK hP hD hS 2 1 rfl rfl h_72 dX7_init_420 (fun H locs hP hD hS => ?_)
  have hs_72 := pre_step (i := 5) hs_71 (5 : Int32) (5 : Int32) rfl rfl
  generalize upd g_71 (5 : Int32).toNatClampNeg 5 = g_72 at hP hD hs_72
  have hP : va_P D vwCl [(h, .inr (6, [.ref q_1, .null, .null, .null, .int 0, .null, .int 0, .int 0, .int 0, .int 0, .int 0, .int 0, .int 0, .int 0, .int 0, .int 0, .int 0, .int 0, .int 0, .int 0, .null, .int 0, .int 0, .int 0, .int 0, .null, .int 0, .null, .null, .null, .int 0, .int 0])), (q_1, .inl (cI, 64, .inl g_65)), (q_66, .inl (cI, 16, .inl g_72))] H := hP
  have hD : va_D A [(h, .inr (6, [.ref q_1, .null, .null, .null, .int 0, .null, .int 0, .int 0, .int 0, .int 0, .int 0, .int 0, .int 0, .int 0, .int 0, .int 0, .int 0, .int 0, .int 0, .int 0, .null, .int 0, .int 0, .int 0, .int 0, .null, .int 0, .null, .null, .null, .int 0, .int 0])), (q_1, .inl (cI, 64, .inl g_65)), (q_66, .inl (cI, 16, .inl g_72))] := hD
  refine lv_dup hx hb dX7_init_421 rfl ?_
  refine lv_bipush (v := 6) hx hb dX7_init_422 (by decide) ?_
  refine lv_bipush (v := 12) hx hb dX7_init_424 (by decide) ?_
  have h_73 : vp_in 6 16 := vp_in_iff.mpr (by decide)
  refine va_iast hx hb hK hP hD hS 2 1 rfl rfl h_73 dX7_init_426 (fun H locs hP hD hS => ?_)
  have hs_73 := pre_step (i := 6) hs_72 (6 : Int32) (12 : Int32) rfl rfl
  generalize upd g_72 (6 : Int32).toNatClampNeg 12 = g_73 at hP hD hs_73
  have hP : va_P D vwCl [(h, .inr (6, [.ref q_1, .null, .null, .null, .int 0, .null, .int 0, .int 0, .int 0, .int 0, .int 0, .int 0, .int 0, .int 0, .int 0, .int 0, .int 0, .int 0, .int 0, .int 0, .null, .int 0, .int 0, .int 0, .int 0, .null, .int 0, .null, .null, .null, .int 0, .int 0])), (q_1, .inl (cI, 64, .inl g_65)), (q_66, .inl (cI, 16, .inl g_73))] H := hP
  have hD : va_D A [(h, .inr (6, [.ref q_1, .null, .null, .null, .int 0, .null, .int 0, .int 0, .int 0, .int 0, .int 0, .int 0, .int 0, .int 0, .int 0, .int 0, .int 0, .int 0, .int 0, .int 0, .null, .int 0, .int 0, .int 0, .int 0, .null, .int 0, .null, .null, .null, .int 0, .int 0])), (q_1, .inl (cI, 64, .inl g_65)), (q_66, .inl (cI, 16, .inl g_73))] := hD
  refine lv_dup hx hb dX7_init_427 rfl ?_
  refine lv_bipush (v := 7) hx hb dX7_init_428 (by decide) ?_
  refine lv_iconst (v := 3) hx hb dX7_init_430 (by decide) ?_
  have h_74 : vp_in 7 16 := vp_in_iff.mpr (by decide)
  refine va_iast hx hb hK hP hD hS 2 1 rfl rfl h_74 dX7_init_431 (fun H locs hP hD hS => ?_)
  have hs_74 := pre_step (i := 7) hs_73 (7 : Int32) (3 : Int32) rfl rfl
  generalize upd g_73 (7 : Int32).toNatClampNeg 3 = g_74 at hP hD hs_74
  have hP : va_P D vwCl [(h, .inr (6, [.ref q_1, .null, .null, .null, .int 0, .null, .int 0, .int 0, .int 0, .int 0, .int 0, .int 0, .int 0, .int 0, .int 0, .int 0, .int 0, .int 0, .int 0, .int 0, .null, .int 0, .int 0, .int 0, .int 0, .null, .int 0, .null, .null, .null, .int 0, .int 0])), (q_1, .inl (cI, 64, .inl g_65)), (q_66, .inl (cI, 16, .inl g_74))] H := hP
  have hD : va_D A [(h, .inr (6, [.ref q_1, .null, .null, .null, .int 0, .null, .int 0, .int 0, .int 0, .int 0, .int 0, .int 0, .int 0, .int 0, .int 0, .int 0, .int 0, .int 0, .int 0, .int 0, .null, .int 0, .int 0, .int 0, .int 0, .null, .int 0, .null, .null, .null, .int 0, .int 0])), (q_1, .inl (cI, 64, .inl g_65)), (q_66, .inl (cI, 16, .inl g_74))] := hD
  refine lv_dup hx hb dX7_init_432 rfl ?_
  refine lv_bipush (v := 8) hx hb dX7_init_433 (by decide) ?_
  refine lv_bipush (v := 13) hx hb dX7_init_435 (by decide) ?_
  have h_75 : vp_in 8 16 := vp_in_iff.mpr (by decide)
  refine va_iast hx hb hK hP hD hS 2 1 rfl rfl h_75 dX7_init_437 (fun H locs hP hD hS => ?_)
  have hs_75 := pre_step (i := 8) hs_74 (8 : Int32) (13 : Int32) rfl rfl
  generalize upd g_74 (8 : Int32).toNatClampNeg 13 = g_75 at hP hD hs_75
  have hP : va_P D vwCl [(h, .inr (6, [.ref q_1, .null, .null, .null, .int 0, .null, .int 0, .int 0, .int 0, .int 0, .int 0, .int 0, .int 0, .int 0, .int 0, .int 0, .int 0, .int 0, .int 0, .int 0, .null, .int 0, .int 0, .int 0, .int 0, .null, .int 0, .null, .null, .null, .int 0, .int 0])), (q_1, .inl (cI, 64, .inl g_65)), (q_66, .inl (cI, 16, .inl g_75))] H := hP
  have hD : va_D A [(h, .inr (6, [.ref q_1, .null, .null, .null, .int 0, .null, .int 0, .int 0, .int 0, .int 0, .int 0, .int 0, .int 0, .int 0, .int 0, .int 0, .int 0, .int 0, .int 0, .int 0, .null, .int 0, .int 0, .int 0, .int 0, .null, .int 0, .null, .null, .null, .int 0, .int 0])), (q_1, .inl (cI, 64, .inl g_65)), (q_66, .inl (cI, 16, .inl g_75))] := hD
  refine lv_dup hx hb dX7_init_438 rfl ?_
  refine lv_bipush (v := 9) hx hb dX7_init_439 (by decide) ?_
  refine lv_iconst (v := 2) hx hb dX7_init_441 (by decide) ?_
  have h_76 : vp_in 9 16 := vp_in_iff.mpr (by decide)
  refine va_iast hx hb hK hP hD hS 2 1 rfl rfl h_76 dX7_init_442 (fun H locs hP hD hS => ?_)
  have hs_76 := pre_step (i := 9) hs_75 (9 : Int32) (2 : Int32) rfl rfl
  generalize upd g_75 (9 : Int32).toNatClampNeg 2 = g_76 at hP hD hs_76
  have hP : va_P D vwCl [(h, .inr (6, [.ref q_1, .null, .null, .null, .int 0, .null, .int 0, .int 0, .int 0, .int 0, .int 0, .int 0, .int 0, .int 0, .int 0, .int 0, .int 0, .int 0, .int 0, .int 0, .null, .int 0, .int 0, .int 0, .int 0, .null, .int 0, .null, .null, .null, .int 0, .int 0])), (q_1, .inl (cI, 64, .inl g_65)), (q_66, .inl (cI, 16, .inl g_76))] H := hP
  have hD : va_D A [(h, .inr (6, [.ref q_1, .null, .null, .null, .int 0, .null, .int 0, .int 0, .int 0, .int 0, .int 0, .int 0, .int 0, .int 0, .int 0, .int 0, .int 0, .int 0, .int 0, .int 0, .null, .int 0, .int 0, .int 0, .int 0, .null, .int 0, .null, .null, .null, .int 0, .int 0])), (q_1, .inl (cI, 64, .inl g_65)), (q_66, .inl (cI, 16, .inl g_76))] := hD
  refine lv_dup hx hb dX7_init_443 rfl ?_
  refine lv_bipush (v := 10) hx hb dX7_init_444 (by decide) ?_
  refine lv_bipush (v := 10) hx hb dX7_init_446 (by decide) ?_
  have h_77 : vp_in 10 16 := vp_in_iff.mpr (by decide)
  refine va_iast hx hb hK hP hD hS 2 1 rfl rfl h_77 dX7_init_448 (fun H locs hP hD hS => ?_)
  have hs_77 := pre_step (i := 10) hs_76 (10 : Int32) (10 : Int32) rfl rfl
  generalize upd g_76 (10 : Int32).toNatClampNeg 10 = g_77 at hP hD hs_77
  have hP : va_P D vwCl [(h, .inr (6, [.ref q_1, .null, .null, .null, .int 0, .null, .int 0, .int 0, .int 0, .int 0, .int 0, .int 0, .int 0, .int 0, .int 0, .int 0, .int 0, .int 0, .int 0, .int 0, .null, .int 0, .int 0, .int 0, .int 0, .null, .int 0, .null, .null, .null, .int 0, .int 0])), (q_1, .inl (cI, 64, .inl g_65)), (q_66, .inl (cI, 16, .inl g_77))] H := hP
  have hD : va_D A [(h, .inr (6, [.ref q_1, .null, .null, .null, .int 0, .null, .int 0, .int 0, .int 0, .int 0, .int 0, .int 0, .int 0, .int 0, .int 0, .int 0, .int 0, .int 0, .int 0, .int 0, .null, .int 0, .int 0, .int 0, .int 0, .null, .int 0, .null, .null, .null, .int 0, .int 0])), (q_1, .inl (cI, 64, .inl g_65)), (q_66, .inl (cI, 16, .inl g_77))] := hD
  refine lv_dup hx hb dX7_init_449 rfl ?_
  refine lv_bipush (v := 11) hx hb dX7_init_450 (by decide) ?_
  refine lv_bipush (v := 10) hx hb dX7_init_452 (by decide) ?_
  have h_78 : vp_in 11 16 := vp_in_iff.mpr (by decide)
  refine va_iast hx hb hK hP hD hS 2 1 rfl rfl h_78 dX7_init_454 (fun H locs hP hD hS => ?_)
  have hs_78 := pre_step (i := 11) hs_77 (11 : Int32) (10 : Int32) rfl rfl
  generalize upd g_77 (11 : Int32).toNatClampNeg 10 = g_78 at hP hD hs_78
  have hP : va_P D vwCl [(h, .inr (6, [.ref q_1, .null, .null, .null, .int 0, .null, .int 0, .int 0, .int 0, .int 0, .int 0, .int 0, .int 0, .int 0, .int 0, .int 0, .int 0, .int 0, .int 0, .int 0, .null, .int 0, .int 0, .int 0, .int 0, .null, .int 0, .null, .null, .null, .int 0, .int 0])), (q_1, .inl (cI, 64, .inl g_65)), (q_66, .inl (cI, 16, .inl g_78))] H := hP
  have hD : va_D A [(h, .inr (6, [.ref q_1, .null, .null, .null, .int 0, .null, .int 0, .int 0, .int 0, .int 0, .int 0, .int 0, .int 0, .int 0, .int 0, .int 0, .int 0, .int 0, .int 0, .int 0, .null, .int 0, .int 0, .int 0, .int 0, .null, .int 0, .null, .null, .null, .int 0, .int 0])), (q_1, .inl (cI, 64, .inl g_65)), (q_66, .inl (cI, 16, .inl g_78))] := hD
  refine lv_dup hx hb dX7_init_455 rfl ?_
  refine lv_bipush (v := 12) hx hb dX7_init_456 (by decide) ?_
  refine lv_bipush (v := 6) hx hb dX7_init_458 (by decide) ?_
  have h_79 : vp_in 12 16 := vp_in_iff.mpr (by decide)
  refine va_iast hx hb hK hP hD hS 2 1 rfl rfl h_79 dX7_init_460 (fun H locs hP hD hS => ?_)
  have hs_79 := pre_step (i := 12) hs_78 (12 : Int32) (6 : Int32) rfl rfl
  generalize upd g_78 (12 : Int32).toNatClampNeg 6 = g_79 at hP hD hs_79
  have hP : va_P D vwCl [(h, .inr (6, [.ref q_1, .null, .null, .null, .int 0, .null, .int 0, .int 0, .int 0, .int 0, .int 0, .int 0, .int 0, .int 0, .int 0, .int 0, .int 0, .int 0, .int 0, .int 0, .null, .int 0, .int 0, .int 0, .int 0, .null, .int 0, .null, .null, .null, .int 0, .int 0])), (q_1, .inl (cI, 64, .inl g_65)), (q_66, .inl (cI, 16, .inl g_79))] H := hP
  have hD : va_D A [(h, .inr (6, [.ref q_1, .null, .null, .null, .int 0, .null, .int 0, .int 0, .int 0, .int 0, .int 0, .int 0, .int 0, .int 0, .int 0, .int 0, .int 0, .int 0, .int 0, .int 0, .null, .int 0, .int 0, .int 0, .int 0, .null, .int 0, .null, .null, .null, .int 0, .int 0])), (q_1, .inl (cI, 64, .inl g_65)), (q_66, .inl (cI, 16, .inl g_79))] := hD
  refine lv_dup hx hb dX7_init_461 rfl ?_
  refine lv_bipush (v := 13) hx hb dX7_init_462 (by decide) ?_
  refine lv_bipush (v := 6) hx hb dX7_init_464 (by decide) ?_
  have h_80 : vp_in 13 16 := vp_in_iff.mpr (by decide)
  refine va_iast hx hb hK hP hD hS 2 1 rfl rfl h_80 dX7_init_466 (fun H locs hP hD hS => ?_)
  have hs_80 := pre_step (i := 13) hs_79 (13 : Int32) (6 : Int32) rfl rfl
  generalize upd g_79 (13 : Int32).toNatClampNeg 6 = g_80 at hP hD hs_80
  have hP : va_P D vwCl [(h, .inr (6, [.ref q_1, .null, .null, .null, .int 0, .null, .int 0, .int 0, .int 0, .int 0, .int 0, .int 0, .int 0, .int 0, .int 0, .int 0, .int 0, .int 0, .int 0, .int 0, .null, .int 0, .int 0, .int 0, .int 0, .null, .int 0, .null, .null, .null, .int 0, .int 0])), (q_1, .inl (cI, 64, .inl g_65)), (q_66, .inl (cI, 16, .inl g_80))] H := hP
  have hD : va_D A [(h, .inr (6, [.ref q_1, .null, .null, .null, .int 0, .null, .int 0, .int 0, .int 0, .int 0, .int 0, .int 0, .int 0, .int 0, .int 0, .int 0, .int 0, .int 0, .int 0, .int 0, .null, .int 0, .int 0, .int 0, .int 0, .null, .int 0, .null, .null, .null, .int 0, .int 0])), (q_1, .inl (cI, 64, .inl g_65)), (q_66, .inl (cI, 16, .inl g_80))] := hD
  refine lv_dup hx hb dX7_init_467 rfl ?_
  refine lv_bipush (v := 14) hx hb dX7_init_468 (by decide) ?_
  refine lv_bipush (v := 14) hx hb dX7_init_470 (by decide) ?_
  have h_81 : vp_in 14 16 := vp_in_iff.mpr (by decide)
  refine va_iast hx hb hK hP hD hS 2 1 rfl rfl h_81 dX7_init_472 (fun H locs hP hD hS => ?_)
  have hs_81 := pre_step (i := 14) hs_80 (14 : Int32) (14 : Int32) rfl rfl
  generalize upd g_80 (14 : Int32).toNatClampNeg 14 = g_81 at hP hD hs_81
  have hP : va_P D vwCl [(h, .inr (6, [.ref q_1, .null, .null, .null, .int 0, .null, .int 0, .int 0, .int 0, .int 0, .int 0, .int 0, .int 0, .int 0, .int 0, .int 0, .int 0, .int 0, .int 0, .int 0, .null, .int 0, .int 0, .int 0, .int 0, .null, .int 0, .null, .null, .null, .int 0, .int 0])), (q_1, .inl (cI, 64, .inl g_65)), (q_66, .inl (cI, 16, .inl g_81))] H := hP
  have hD : va_D A [(h, .inr (6, [.ref q_1, .null, .null, .null, .int 0, .null, .int 0, .int 0, .int 0, .int 0, .int 0, .int 0, .int 0, .int 0, .int 0, .int 0, .int 0, .int 0, .int 0, .int 0, .null, .int 0, .int 0, .int 0, .int 0, .null, .int 0, .null, .null, .null, .int 0, .int 0])), (q_1, .inl (cI, 64, .inl g_65)), (q_66, .inl (cI, 16, .inl g_81))] := hD
  refine lv_dup hx hb dX7_init_473 rfl ?_
  refine lv_bipush (v := 15) hx hb dX7_init_474 (by decide) ?_
  refine lv_iconst (v := 1) hx hb dX7_init_476 (by decide) ?_
  have h_82 : vp_in 15 16 := vp_in_iff.mpr (by decide)
  refine va_iast hx hb hK hP hD hS 2 1 rfl rfl h_82 dX7_init_477 (fun H locs hP hD hS => ?_)
  have hs_82 := pre_step (i := 15) hs_81 (15 : Int32) (1 : Int32) rfl rfl
  generalize upd g_81 (15 : Int32).toNatClampNeg 1 = g_82 at hP hD hs_82
  have hP : va_P D vwCl [(h, .inr (6, [.ref q_1, .null, .null, .null, .int 0, .null, .int 0, .int 0, .int 0, .int 0, .int 0, .int 0, .int 0, .int 0, .int 0, .int 0, .int 0, .int 0, .int 0, .int 0, .null, .int 0, .int 0, .int 0, .int 0, .null, .int 0, .null, .null, .null, .int 0, .int 0])), (q_1, .inl (cI, 64, .inl g_65)), (q_66, .inl (cI, 16, .inl g_82))] H := hP
  have hD : va_D A [(h, .inr (6, [.ref q_1, .null, .null, .null, .int 0, .null, .int 0, .int 0, .int 0, .int 0, .int 0, .int 0, .int 0, .int 0, .int 0, .int 0, .int 0, .int 0, .int 0, .int 0, .null, .int 0, .int 0, .int 0, .int 0, .null, .int 0, .null, .null, .null, .int 0, .int 0])), (q_1, .inl (cI, 64, .inl g_65)), (q_66, .inl (cI, 16, .inl g_82))] := hD
  refine va_putF (D := D) (ci := 6) (v := .ref q_66) (ty := (.array .int)) (C := RX7) (T := TX7) (N := 32) hx hb hts hiX7 tyX7 tyX7_ok nmX7 hown hK hP hD hS 0 rfl rfl 1 (by decide) k13 (fun _ h9 => h9) rfl hin rfl (by decide +kernel) rfl rfl (Nat.le_of_ble_eq_true rfl) dX7_init_478 (fun H locs hP hD hS => ?_)
  have hP : va_P D vwCl [(h, .inr (6, [.ref q_1, .ref q_66, .null, .null, .int 0, .null, .int 0, .int 0, .int 0, .int 0, .int 0, .int 0, .int 0, .int 0, .int 0, .int 0, .int 0, .int 0, .int 0, .int 0, .null, .int 0, .int 0, .int 0, .int 0, .null, .int 0, .null, .null, .null, .int 0, .int 0])), (q_1, .inl (cI, 64, .inl g_65)), (q_66, .inl (cI, 16, .inl g_82))] H := hP
  have hD : va_D A [(h, .inr (6, [.ref q_1, .ref q_66, .null, .null, .int 0, .null, .int 0, .int 0, .int 0, .int 0, .int 0, .int 0, .int 0, .int 0, .int 0, .int 0, .int 0, .int 0, .int 0, .int 0, .null, .int 0, .int 0, .int 0, .int 0, .null, .int 0, .null, .null, .null, .int 0, .int 0])), (q_1, .inl (cI, 64, .inl g_65)), (q_66, .inl (cI, 16, .inl g_82))] := hD
  refine lv_aload_n hx hb dX7_init_481 rfl (lv_at hl 0 rfl) ?_
  refine lv_bipush (v := 16) hx hb dX7_init_482 (by decide) ?_
  refine knew_int hx hb ka_int hK hP hD hS hA (N := 16) (by decide) (by decide) (Nat.le_of_ble_eq_true rfl) (Nat.le_of_ble_eq_true rfl) (Nat.le_of_ble_eq_true rfl) dX7_init_484 (fun q_83 H hP hD hS => ?_)
  have hP : va_P D vwCl [(h, .inr (6, [.ref q_1, .ref q_66, .null, .null, .int 0, .null, .int 0, .int 0, .int 0, .int 0, .int 0, .int 0, .int 0, .int 0, .int 0, .int 0, .int 0, .int 0, .int 0, .int 0, .null, .int 0, .int 0, .int 0, .int 0, .null, .int 0, .null, .null, .null, .int 0, .int 0])), (q_1, .inl (cI, 64, .inl g_65)), (q_66, .inl (cI, 16, .inl g_82)), (q_83, .inl (cI, 16, .inl (fun _ => 0)))] H := hP
  have hD : va_D A [(h, .inr (6, [.ref q_1, .ref q_66, .null, .null, .int 0, .null, .int 0, .int 0, .int 0, .int 0, .int 0, .int 0, .int 0, .int 0, .int 0, .int 0, .int 0, .int 0, .int 0, .int 0, .null, .int 0, .int 0, .int 0, .int 0, .null, .int 0, .null, .null, .null, .int 0, .int 0])), (q_1, .inl (cI, 64, .inl g_65)), (q_66, .inl (cI, 16, .inl g_82)), (q_83, .inl (cI, 16, .inl (fun _ => 0)))] := hD
  refine W.widen (k := 3) (n := 96) (Nat.le_of_ble_eq_true rfl) (Nat.le_of_ble_eq_true rfl) ?_
  refine lv_dup hx hb dX7_init_486 rfl ?_
  refine lv_iconst (v := 0) hx hb dX7_init_487 (by decide) ?_
  refine lv_bipush (v := 11) hx hb dX7_init_488 (by decide) ?_
  have h_84 : vp_in 0 16 := vp_in_iff.mpr (by decide)
  refine va_iast hx hb hK hP hD hS 3 1 rfl rfl h_84 dX7_init_490 (fun H locs hP hD hS => ?_)
  have hs_84 := pre_zero k_sgf (0 : Int32) (11 : Int32) (fun _ => 0) rfl rfl
  generalize upd (fun _ => 0) (0 : Int32).toNatClampNeg 11 = g_84 at hP hD hs_84
  have hP : va_P D vwCl [(h, .inr (6, [.ref q_1, .ref q_66, .null, .null, .int 0, .null, .int 0, .int 0, .int 0, .int 0, .int 0, .int 0, .int 0, .int 0, .int 0, .int 0, .int 0, .int 0, .int 0, .int 0, .null, .int 0, .int 0, .int 0, .int 0, .null, .int 0, .null, .null, .null, .int 0, .int 0])), (q_1, .inl (cI, 64, .inl g_65)), (q_66, .inl (cI, 16, .inl g_82)), (q_83, .inl (cI, 16, .inl g_84))] H := hP
  have hD : va_D A [(h, .inr (6, [.ref q_1, .ref q_66, .null, .null, .int 0, .null, .int 0, .int 0, .int 0, .int 0, .int 0, .int 0, .int 0, .int 0, .int 0, .int 0, .int 0, .int 0, .int 0, .int 0, .null, .int 0, .int 0, .int 0, .int 0, .null, .int 0, .null, .null, .null, .int 0, .int 0])), (q_1, .inl (cI, 64, .inl g_65)), (q_66, .inl (cI, 16, .inl g_82)), (q_83, .inl (cI, 16, .inl g_84))] := hD
  refine lv_dup hx hb dX7_init_491 rfl ?_
  refine lv_iconst (v := 1) hx hb dX7_init_492 (by decide) ?_
  refine lv_iconst (v := 4) hx hb dX7_init_493 (by decide) ?_
  have h_85 : vp_in 1 16 := vp_in_iff.mpr (by decide)
  refine va_iast hx hb hK hP hD hS 3 1 rfl rfl h_85 dX7_init_494 (fun H locs hP hD hS => ?_)
  have hs_85 := pre_step (i := 1) hs_84 (1 : Int32) (4 : Int32) rfl rfl
  generalize upd g_84 (1 : Int32).toNatClampNeg 4 = g_85 at hP hD hs_85
  have hP : va_P D vwCl [(h, .inr (6, [.ref q_1, .ref q_66, .null, .null, .int 0, .null, .int 0, .int 0, .int 0, .int 0, .int 0, .int 0, .int 0, .int 0, .int 0, .int 0, .int 0, .int 0, .int 0, .int 0, .null, .int 0, .int 0, .int 0, .int 0, .null, .int 0, .null, .null, .null, .int 0, .int 0])), (q_1, .inl (cI, 64, .inl g_65)), (q_66, .inl (cI, 16, .inl g_82)), (q_83, .inl (cI, 16, .inl g_85))] H := hP
  have hD : va_D A [(h, .inr (6, [.ref q_1, .ref q_66, .null, .null, .int 0, .null, .int 0, .int 0, .int 0, .int 0, .int 0, .int 0, .int 0, .int 0, .int 0, .int 0, .int 0, .int 0, .int 0, .int 0, .null, .int 0, .int 0, .int 0, .int 0, .null, .int 0, .null, .null, .null, .int 0, .int 0])), (q_1, .inl (cI, 64, .inl g_65)), (q_66, .inl (cI, 16, .inl g_82)), (q_83, .inl (cI, 16, .inl g_85))] := hD
  refine lv_dup hx hb dX7_init_495 rfl ?_
  refine lv_iconst (v := 2) hx hb dX7_init_496 (by decide) ?_
  refine lv_bipush (v := 6) hx hb dX7_init_497 (by decide) ?_
  have h_86 : vp_in 2 16 := vp_in_iff.mpr (by decide)
  refine va_iast hx hb hK hP hD hS 3 1 rfl rfl h_86 dX7_init_499 (fun H locs hP hD hS => ?_)
  have hs_86 := pre_step (i := 2) hs_85 (2 : Int32) (6 : Int32) rfl rfl
  generalize upd g_85 (2 : Int32).toNatClampNeg 6 = g_86 at hP hD hs_86
  have hP : va_P D vwCl [(h, .inr (6, [.ref q_1, .ref q_66, .null, .null, .int 0, .null, .int 0, .int 0, .int 0, .int 0, .int 0, .int 0, .int 0, .int 0, .int 0, .int 0, .int 0, .int 0, .int 0, .int 0, .null, .int 0, .int 0, .int 0, .int 0, .null, .int 0, .null, .null, .null, .int 0, .int 0])), (q_1, .inl (cI, 64, .inl g_65)), (q_66, .inl (cI, 16, .inl g_82)), (q_83, .inl (cI, 16, .inl g_86))] H := hP
  have hD : va_D A [(h, .inr (6, [.ref q_1, .ref q_66, .null, .null, .int 0, .null, .int 0, .int 0, .int 0, .int 0, .int 0, .int 0, .int 0, .int 0, .int 0, .int 0, .int 0, .int 0, .int 0, .int 0, .null, .int 0, .int 0, .int 0, .int 0, .null, .int 0, .null, .null, .null, .int 0, .int 0])), (q_1, .inl (cI, 64, .inl g_65)), (q_66, .inl (cI, 16, .inl g_82)), (q_83, .inl (cI, 16, .inl g_86))] := hD
  refine lv_dup hx hb dX7_init_500 rfl ?_
  refine lv_iconst (v := 3) hx hb dX7_init_501 (by decide) ?_
  refine lv_bipush (v := 9) hx hb dX7_init_502 (by decide) ?_
  have h_87 : vp_in 3 16 := vp_in_iff.mpr (by decide)
  refine va_iast hx hb hK hP hD hS 3 1 rfl rfl h_87 dX7_init_504 (fun H locs hP hD hS => ?_)
  have hs_87 := pre_step (i := 3) hs_86 (3 : Int32) (9 : Int32) rfl rfl
  generalize upd g_86 (3 : Int32).toNatClampNeg 9 = g_87 at hP hD hs_87
  have hP : va_P D vwCl [(h, .inr (6, [.ref q_1, .ref q_66, .null, .null, .int 0, .null, .int 0, .int 0, .int 0, .int 0, .int 0, .int 0, .int 0, .int 0, .int 0, .int 0, .int 0, .int 0, .int 0, .int 0, .null, .int 0, .int 0, .int 0, .int 0, .null, .int 0, .null, .null, .null, .int 0, .int 0])), (q_1, .inl (cI, 64, .inl g_65)), (q_66, .inl (cI, 16, .inl g_82)), (q_83, .inl (cI, 16, .inl g_87))] H := hP
  have hD : va_D A [(h, .inr (6, [.ref q_1, .ref q_66, .null, .null, .int 0, .null, .int 0, .int 0, .int 0, .int 0, .int 0, .int 0, .int 0, .int 0, .int 0, .int 0, .int 0, .int 0, .int 0, .int 0, .null, .int 0, .int 0, .int 0, .int 0, .null, .int 0, .null, .null, .null, .int 0, .int 0])), (q_1, .inl (cI, 64, .inl g_65)), (q_66, .inl (cI, 16, .inl g_82)), (q_83, .inl (cI, 16, .inl g_87))] := hD
  refine lv_dup hx hb dX7_init_505 rfl ?_
  refine lv_iconst (v := 4) hx hb dX7_init_506 (by decide) ?_
  refine lv_bipush (v := 10) hx hb dX7_init_507 (by decide) ?_
  have h_88 : vp_in 4 16 := vp_in_iff.mpr (by decide)
  refine va_iast hx hb hK hP hD hS 3 1 rfl rfl h_88 dX7_init_509 (fun H locs hP hD hS => ?_)
  have hs_88 := pre_step (i := 4) hs_87 (4 : Int32) (10 : Int32) rfl rfl
  generalize upd g_87 (4 : Int32).toNatClampNeg 10 = g_88 at hP hD hs_88
  have hP : va_P D vwCl [(h, .inr (6, [.ref q_1, .ref q_66, .null, .null, .int 0, .null, .int 0, .int 0, .int 0, .int 0, .int 0, .int 0, .int 0, .int 0, .int 0, .int 0, .int 0, .int 0, .int 0, .int 0, .null, .int 0, .int 0, .int 0, .int 0, .null, .int 0, .null, .null, .null, .int 0, .int 0])), (q_1, .inl (cI, 64, .inl g_65)), (q_66, .inl (cI, 16, .inl g_82)), (q_83, .inl (cI, 16, .inl g_88))] H := hP
  have hD : va_D A [(h, .inr (6, [.ref q_1, .ref q_66, .null, .null, .int 0, .null, .int 0, .int 0, .int 0, .int 0, .int 0, .int 0, .int 0, .int 0, .int 0, .int 0, .int 0, .int 0, .int 0, .int 0, .null, .int 0, .int 0, .int 0, .int 0, .null, .int 0, .null, .null, .null, .int 0, .int 0])), (q_1, .inl (cI, 64, .inl g_65)), (q_66, .inl (cI, 16, .inl g_82)), (q_83, .inl (cI, 16, .inl g_88))] := hD
  refine lv_dup hx hb dX7_init_510 rfl ?_
  refine lv_iconst (v := 5) hx hb dX7_init_511 (by decide) ?_
  refine lv_iconst (v := 5) hx hb dX7_init_512 (by decide) ?_
  have h_89 : vp_in 5 16 := vp_in_iff.mpr (by decide)
  refine va_iast hx hb hK hP hD hS 3 1 rfl rfl h_89 dX7_init_513 (fun H locs hP hD hS => ?_)
  have hs_89 := pre_step (i := 5) hs_88 (5 : Int32) (5 : Int32) rfl rfl
  generalize upd g_88 (5 : Int32).toNatClampNeg 5 = g_89 at hP hD hs_89
  have hP : va_P D vwCl [(h, .inr (6, [.ref q_1, .ref q_66, .null, .null, .int 0, .null, .int 0, .int 0, .int 0, .int 0, .int 0, .int 0, .int 0, .int 0, .int 0, .int 0, .int 0, .int 0, .int 0, .int 0, .null, .int 0, .int 0, .int 0, .int 0, .null, .int 0, .null, .null, .null, .int 0, .int 0])), (q_1, .inl (cI, 64, .inl g_65)), (q_66, .inl (cI, 16, .inl g_82)), (q_83, .inl (cI, 16, .inl g_89))] H := hP
  have hD : va_D A [(h, .inr (6, [.ref q_1, .ref q_66, .null, .null, .int 0, .null, .int 0, .int 0, .int 0, .int 0, .int 0, .int 0, .int 0, .int 0, .int 0, .int 0, .int 0, .int 0, .int 0, .int 0, .null, .int 0, .int 0, .int 0, .int 0, .null, .int 0, .null, .null, .null, .int 0, .int 0])), (q_1, .inl (cI, 64, .inl g_65)), (q_66, .inl (cI, 16, .inl g_82)), (q_83, .inl (cI, 16, .inl g_89))] := hD
  refine lv_dup hx hb dX7_init_514 rfl ?_
  refine lv_bipush (v := 6) hx hb dX7_init_515 (by decide) ?_
  refine lv_bipush (v := 12) hx hb dX7_init_517 (by decide) ?_
  have h_90 : vp_in 6 16 := vp_in_iff.mpr (by decide)
  refine va_iast hx hb hK hP hD hS 3 1 rfl rfl h_90 dX7_init_519 (fun H locs hP hD hS => ?_)
  have hs_90 := pre_step (i := 6) hs_89 (6 : Int32) (12 : Int32) rfl rfl
  generalize upd g_89 (6 : Int32).toNatClampNeg 12 = g_90 at hP hD hs_90
  have hP : va_P D vwCl [(h, .inr (6, [.ref q_1, .ref q_66, .null, .null, .int 0, .null, .int 0, .int 0, .int 0, .int 0, .int 0, .int 0, .int 0, .int 0, .int 0, .int 0, .int 0, .int 0, .int 0, .int 0, .null, .int 0, .int 0, .int 0, .int 0, .null, .int 0, .null, .null, .null, .int 0, .int 0])), (q_1, .inl (cI, 64, .inl g_65)), (q_66, .inl (cI, 16, .inl g_82)), (q_83, .inl (cI, 16, .inl g_90))] H := hP
  have hD : va_D A [(h, .inr (6, [.ref q_1, .ref q_66, .null, .null, .int 0, .null, .int 0, .int 0, .int 0, .int 0, .int 0, .int 0, .int 0, .int 0, .int 0, .int 0, .int 0, .int 0, .int 0, .int 0, .null, .int 0, .int 0, .int 0, .int 0, .null, .int 0, .null, .null, .null, .int 0, .int 0])), (q_1, .inl (cI, 64, .inl g_65)), (q_66, .inl (cI, 16, .inl g_82)), (q_83, .inl (cI, 16, .inl g_90))] := hD
  refine lv_dup hx hb dX7_init_520 rfl ?_
  refine lv_bipush (v := 7) hx hb dX7_init_521 (by decide) ?_
  refine lv_iconst (v := 3) hx hb dX7_init_523 (by decide) ?_
  have h_91 : vp_in 7 16 := vp_in_iff.mpr (by decide)
  refine va_iast hx hb hK hP hD hS 3 1 rfl rfl h_91 dX7_init_524 (fun H locs hP hD hS => ?_)
  have hs_91 := pre_step (i := 7) hs_90 (7 : Int32) (3 : Int32) rfl rfl
  generalize upd g_90 (7 : Int32).toNatClampNeg 3 = g_91 at hP hD hs_91
  have hP : va_P D vwCl [(h, .inr (6, [.ref q_1, .ref q_66, .null, .null, .int 0, .null, .int 0, .int 0, .int 0, .int 0, .int 0, .int 0, .int 0, .int 0, .int 0, .int 0, .int 0, .int 0, .int 0, .int 0, .null, .int 0, .int 0, .int 0, .int 0, .null, .int 0, .null, .null, .null, .int 0, .int 0])), (q_1, .inl (cI, 64, .inl g_65)), (q_66, .inl (cI, 16, .inl g_82)), (q_83, .inl (cI, 16, .inl g_91))] H := hP
  have hD : va_D A [(h, .inr (6, [.ref q_1, .ref q_66, .null, .null, .int 0, .null, .int 0, .int 0, .int 0, .int 0, .int 0, .int 0, .int 0, .int 0, .int 0, .int 0, .int 0, .int 0, .int 0, .int 0, .null, .int 0, .int 0, .int 0, .int 0, .null, .int 0, .null, .null, .null, .int 0, .int 0])), (q_1, .inl (cI, 64, .inl g_65)), (q_66, .inl (cI, 16, .inl g_82)), (q_83, .inl (cI, 16, .inl g_91))] := hD
  refine lv_dup hx hb dX7_init_525 rfl ?_
  refine lv_bipush (v := 8) hx hb dX7_init_526 (by decide) ?_
  refine lv_bipush (v := 13) hx hb dX7_init_528 (by decide) ?_
  have h_92 : vp_in 8 16 := vp_in_iff.mpr (by decide)
  refine va_iast hx hb hK hP hD hS 3 1 rfl rfl h_92 dX7_init_530 (fun H locs hP hD hS => ?_)
  have hs_92 := pre_step (i := 8) hs_91 (8 : Int32) (13 : Int32) rfl rfl
  generalize upd g_91 (8 : Int32).toNatClampNeg 13 = g_92 at hP hD hs_92
  have hP : va_P D vwCl [(h, .inr (6, [.ref q_1, .ref q_66, .null, .null, .int 0, .null, .int 0, .int 0, .int 0, .int 0, .int 0, .int 0, .int 0, .int 0, .int 0, .int 0, .int 0, .int 0, .int 0, .int 0, .null, .int 0, .int 0, .int 0, .int 0, .null, .int 0, .null, .null, .null, .int 0, .int 0])), (q_1, .inl (cI, 64, .inl g_65)), (q_66, .inl (cI, 16, .inl g_82)), (q_83, .inl (cI, 16, .inl g_92))] H := hP
  have hD : va_D A [(h, .inr (6, [.ref q_1, .ref q_66, .null, .null, .int 0, .null, .int 0, .int 0, .int 0, .int 0, .int 0, .int 0, .int 0, .int 0, .int 0, .int 0, .int 0, .int 0, .int 0, .int 0, .null, .int 0, .int 0, .int 0, .int 0, .null, .int 0, .null, .null, .null, .int 0, .int 0])), (q_1, .inl (cI, 64, .inl g_65)), (q_66, .inl (cI, 16, .inl g_82)), (q_83, .inl (cI, 16, .inl g_92))] := hD
  refine lv_dup hx hb dX7_init_531 rfl ?_
  refine lv_bipush (v := 9) hx hb dX7_init_532 (by decide) ?_
  refine lv_iconst (v := 2) hx hb dX7_init_534 (by decide) ?_
  have h_93 : vp_in 9 16 := vp_in_iff.mpr (by decide)
  refine va_iast hx hb hK hP hD hS 3 1 rfl rfl h_93 dX7_init_535 (fun H locs hP hD hS => ?_)
  have hs_93 := pre_step (i := 9) hs_92 (9 : Int32) (2 : Int32) rfl rfl
  generalize upd g_92 (9 : Int32).toNatClampNeg 2 = g_93 at hP hD hs_93
  have hP : va_P D vwCl [(h, .inr (6, [.ref q_1, .ref q_66, .null, .null, .int 0, .null, .int 0, .int 0, .int 0, .int 0, .int 0, .int 0, .int 0, .int 0, .int 0, .int 0, .int 0, .int 0, .int 0, .int 0, .null, .int 0, .int 0, .int 0, .int 0, .null, .int 0, .null, .null, .null, .int 0, .int 0])), (q_1, .inl (cI, 64, .inl g_65)), (q_66, .inl (cI, 16, .inl g_82)), (q_83, .inl (cI, 16, .inl g_93))] H := hP
  have hD : va_D A [(h, .inr (6, [.ref q_1, .ref q_66, .null, .null, .int 0, .null, .int 0, .int 0, .int 0, .int 0, .int 0, .int 0, .int 0, .int 0, .int 0, .int 0, .int 0, .int 0, .int 0, .int 0, .null, .int 0, .int 0, .int 0, .int 0, .null, .int 0, .null, .null, .null, .int 0, .int 0])), (q_1, .inl (cI, 64, .inl g_65)), (q_66, .inl (cI, 16, .inl g_82)), (q_83, .inl (cI, 16, .inl g_93))] := hD
  refine lv_dup hx hb dX7_init_536 rfl ?_
  refine lv_bipush (v := 10) hx hb dX7_init_537 (by decide) ?_
  refine lv_iconst (v := 5) hx hb dX7_init_539 (by decide) ?_
  have h_94 : vp_in 10 16 := vp_in_iff.mpr (by decide)
  refine va_iast hx hb hK hP hD hS 3 1 rfl rfl h_94 dX7_init_540 (fun H locs hP hD hS => ?_)
  have hs_94 := pre_step (i := 10) hs_93 (10 : Int32) (5 : Int32) rfl rfl
  generalize upd g_93 (10 : Int32).toNatClampNeg 5 = g_94 at hP hD hs_94
  have hP : va_P D vwCl [(h, .inr (6, [.ref q_1, .ref q_66, .null, .null, .int 0, .null, .int 0, .int 0, .int 0, .int 0, .int 0, .int 0, .int 0, .int 0, .int 0, .int 0, .int 0, .int 0, .int 0, .int 0, .null, .int 0, .int 0, .int 0, .int 0, .null, .int 0, .null, .null, .null, .int 0, .int 0])), (q_1, .inl (cI, 64, .inl g_65)), (q_66, .inl (cI, 16, .inl g_82)), (q_83, .inl (cI, 16, .inl g_94))] H := hP
  have hD : va_D A [(h, .inr (6, [.ref q_1, .ref q_66, .null, .null, .int 0, .null, .int 0, .int 0, .int 0, .int 0, .int 0, .int 0, .int 0, .int 0, .int 0, .int 0, .int 0, .int 0, .int 0, .int 0, .null, .int 0, .int 0, .int 0, .int 0, .null, .int 0, .null, .null, .null, .int 0, .int 0])), (q_1, .inl (cI, 64, .inl g_65)), (q_66, .inl (cI, 16, .inl g_82)), (q_83, .inl (cI, 16, .inl g_94))] := hD
  refine lv_dup hx hb dX7_init_541 rfl ?_
  refine lv_bipush (v := 11) hx hb dX7_init_542 (by decide) ?_
  refine lv_bipush (v := 10) hx hb dX7_init_544 (by decide) ?_
  have h_95 : vp_in 11 16 := vp_in_iff.mpr (by decide)
  refine va_iast hx hb hK hP hD hS 3 1 rfl rfl h_95 dX7_init_546 (fun H locs hP hD hS => ?_)
  have hs_95 := pre_step (i := 11) hs_94 (11 : Int32) (10 : Int32) rfl rfl
  generalize upd g_94 (11 : Int32).toNatClampNeg 10 = g_95 at hP hD hs_95
  have hP : va_P D vwCl [(h, .inr (6, [.ref q_1, .ref q_66, .null, .null, .int 0, .null, .int 0, .int 0, .int 0, .int 0, .int 0, .int 0, .int 0, .int 0, .int 0, .int 0, .int 0, .int 0, .int 0, .int 0, .null, .int 0, .int 0, .int 0, .int 0, .null, .int 0, .null, .null, .null, .int 0, .int 0])), (q_1, .inl (cI, 64, .inl g_65)), (q_66, .inl (cI, 16, .inl g_82)), (q_83, .inl (cI, 16, .inl g_95))] H := hP
  have hD : va_D A [(h, .inr (6, [.ref q_1, .ref q_66, .null, .null, .int 0, .null, .int 0, .int 0, .int 0, .int 0, .int 0, .int 0, .int 0, .int 0, .int 0, .int 0, .int 0, .int 0, .int 0, .int 0, .null, .int 0, .int 0, .int 0, .int 0, .null, .int 0, .null, .null, .null, .int 0, .int 0])), (q_1, .inl (cI, 64, .inl g_65)), (q_66, .inl (cI, 16, .inl g_82)), (q_83, .inl (cI, 16, .inl g_95))] := hD
  refine lv_dup hx hb dX7_init_547 rfl ?_
  refine lv_bipush (v := 12) hx hb dX7_init_548 (by decide) ?_
  refine lv_bipush (v := 9) hx hb dX7_init_550 (by decide) ?_
  have h_96 : vp_in 12 16 := vp_in_iff.mpr (by decide)
  refine va_iast hx hb hK hP hD hS 3 1 rfl rfl h_96 dX7_init_552 (fun H locs hP hD hS => ?_)
  have hs_96 := pre_step (i := 12) hs_95 (12 : Int32) (9 : Int32) rfl rfl
  generalize upd g_95 (12 : Int32).toNatClampNeg 9 = g_96 at hP hD hs_96
  have hP : va_P D vwCl [(h, .inr (6, [.ref q_1, .ref q_66, .null, .null, .int 0, .null, .int 0, .int 0, .int 0, .int 0, .int 0, .int 0, .int 0, .int 0, .int 0, .int 0, .int 0, .int 0, .int 0, .int 0, .null, .int 0, .int 0, .int 0, .int 0, .null, .int 0, .null, .null, .null, .int 0, .int 0])), (q_1, .inl (cI, 64, .inl g_65)), (q_66, .inl (cI, 16, .inl g_82)), (q_83, .inl (cI, 16, .inl g_96))] H := hP
  have hD : va_D A [(h, .inr (6, [.ref q_1, .ref q_66, .null, .null, .int 0, .null, .int 0, .int 0, .int 0, .int 0, .int 0, .int 0, .int 0, .int 0, .int 0, .int 0, .int 0, .int 0, .int 0, .int 0, .null, .int 0, .int 0, .int 0, .int 0, .null, .int 0, .null, .null, .null, .int 0, .int 0])), (q_1, .inl (cI, 64, .inl g_65)), (q_66, .inl (cI, 16, .inl g_82)), (q_83, .inl (cI, 16, .inl g_96))] := hD
  refine lv_dup hx hb dX7_init_553 rfl ?_
  refine lv_bipush (v := 13) hx hb dX7_init_554 (by decide) ?_
  refine lv_bipush (v := 6) hx hb dX7_init_556 (by decide) ?_
  have h_97 : vp_in 13 16 := vp_in_iff.mpr (by decide)
  refine va_iast hx hb hK hP hD hS 3 1 rfl rfl h_97 dX7_init_558 (fun H locs hP hD hS => ?_)
  have hs_97 := pre_step (i := 13) hs_96 (13 : Int32) (6 : Int32) rfl rfl
  generalize upd g_96 (13 : Int32).toNatClampNeg 6 = g_97 at hP hD hs_97
  have hP : va_P D vwCl [(h, .inr (6, [.ref q_1, .ref q_66, .null, .null, .int 0, .null, .int 0, .int 0, .int 0, .int 0, .int 0, .int 0, .int 0, .int 0, .int 0, .int 0, .int 0, .int 0, .int 0, .int 0, .null, .int 0, .int 0, .int 0, .int 0, .null, .int 0, .null, .null, .null, .int 0, .int 0])), (q_1, .inl (cI, 64, .inl g_65)), (q_66, .inl (cI, 16, .inl g_82)), (q_83, .inl (cI, 16, .inl g_97))] H := hP
  have hD : va_D A [(h, .inr (6, [.ref q_1, .ref q_66, .null, .null, .int 0, .null, .int 0, .int 0, .int 0, .int 0, .int 0, .int 0, .int 0, .int 0, .int 0, .int 0, .int 0, .int 0, .int 0, .int 0, .null, .int 0, .int 0, .int 0, .int 0, .null, .int 0, .null, .null, .null, .int 0, .int 0])), (q_1, .inl (cI, 64, .inl g_65)), (q_66, .inl (cI, 16, .inl g_82)), (q_83, .inl (cI, 16, .inl g_97))] := hD
  refine lv_dup hx hb dX7_init_559 rfl ?_
  refine lv_bipush (v := 14) hx hb dX7_init_560 (by decide) ?_
  refine lv_bipush (v := 7) hx hb dX7_init_562 (by decide) ?_
  have h_98 : vp_in 14 16 := vp_in_iff.mpr (by decide)
  refine va_iast hx hb hK hP hD hS 3 1 rfl rfl h_98 dX7_init_564 (fun H locs hP hD hS => ?_)
  have hs_98 := pre_step (i := 14) hs_97 (14 : Int32) (7 : Int32) rfl rfl
  generalize upd g_97 (14 : Int32).toNatClampNeg 7 = g_98 at hP hD hs_98
  have hP : va_P D vwCl [(h, .inr (6, [.ref q_1, .ref q_66, .null, .null, .int 0, .null, .int 0, .int 0, .int 0, .int 0, .int 0, .int 0, .int 0, .int 0, .int 0, .int 0, .int 0, .int 0, .int 0, .int 0, .null, .int 0, .int 0, .int 0, .int 0, .null, .int 0, .null, .null, .null, .int 0, .int 0])), (q_1, .inl (cI, 64, .inl g_65)), (q_66, .inl (cI, 16, .inl g_82)), (q_83, .inl (cI, 16, .inl g_98))] H := hP
  have hD : va_D A [(h, .inr (6, [.ref q_1, .ref q_66, .null, .null, .int 0, .null, .int 0, .int 0, .int 0, .int 0, .int 0, .int 0, .int 0, .int 0, .int 0, .int 0, .int 0, .int 0, .int 0, .int 0, .null, .int 0, .int 0, .int 0, .int 0, .null, .int 0, .null, .null, .null, .int 0, .int 0])), (q_1, .inl (cI, 64, .inl g_65)), (q_66, .inl (cI, 16, .inl g_82)), (q_83, .inl (cI, 16, .inl g_98))] := hD
  refine lv_dup hx hb dX7_init_565 rfl ?_
  refine lv_bipush (v := 15) hx hb dX7_init_566 (by decide) ?_
  refine lv_bipush (v := 8) hx hb dX7_init_568 (by decide) ?_
  have h_99 : vp_in 15 16 := vp_in_iff.mpr (by decide)
  refine va_iast hx hb hK hP hD hS 3 1 rfl rfl h_99 dX7_init_570 (fun H locs hP hD hS => ?_)
  have hs_99 := pre_step (i := 15) hs_98 (15 : Int32) (8 : Int32) rfl rfl
  generalize upd g_98 (15 : Int32).toNatClampNeg 8 = g_99 at hP hD hs_99
  have hP : va_P D vwCl [(h, .inr (6, [.ref q_1, .ref q_66, .null, .null, .int 0, .null, .int 0, .int 0, .int 0, .int 0, .int 0, .int 0, .int 0, .int 0, .int 0, .int 0, .int 0, .int 0, .int 0, .int 0, .null, .int 0, .int 0, .int 0, .int 0, .null, .int 0, .null, .null, .null, .int 0, .int 0])), (q_1, .inl (cI, 64, .inl g_65)), (q_66, .inl (cI, 16, .inl g_82)), (q_83, .inl (cI, 16, .inl g_99))] H := hP
  have hD : va_D A [(h, .inr (6, [.ref q_1, .ref q_66, .null, .null, .int 0, .null, .int 0, .int 0, .int 0, .int 0, .int 0, .int 0, .int 0, .int 0, .int 0, .int 0, .int 0, .int 0, .int 0, .int 0, .null, .int 0, .int 0, .int 0, .int 0, .null, .int 0, .null, .null, .null, .int 0, .int 0])), (q_1, .inl (cI, 64, .inl g_65)), (q_66, .inl (cI, 16, .inl g_82)), (q_83, .inl (cI, 16, .inl g_99))] := hD
  refine va_putF (D := D) (ci := 6) (v := .ref q_83) (ty := (.array .int)) (C := RX7) (T := TX7) (N := 32) hx hb hts hiX7 tyX7 tyX7_ok nmX7 hown hK hP hD hS 0 rfl rfl 2 (by decide) k16 (fun _ h9 => h9) rfl hin rfl (by decide +kernel) rfl rfl (Nat.le_of_ble_eq_true rfl) dX7_init_571 (fun H locs hP hD hS => ?_)
  have hP : va_P D vwCl [(h, .inr (6, [.ref q_1, .ref q_66, .ref q_83, .null, .int 0, .null, .int 0, .int 0, .int 0, .int 0, .int 0, .int 0, .int 0, .int 0, .int 0, .int 0, .int 0, .int 0, .int 0, .int 0, .null, .int 0, .int 0, .int 0, .int 0, .null, .int 0, .null, .null, .null, .int 0, .int 0])), (q_1, .inl (cI, 64, .inl g_65)), (q_66, .inl (cI, 16, .inl g_82)), (q_83, .inl (cI, 16, .inl g_99))] H := hP
  have hD : va_D A [(h, .inr (6, [.ref q_1, .ref q_66, .ref q_83, .null, .int 0, .null, .int 0, .int 0, .int 0, .int 0, .int 0, .int 0, .int 0, .int 0, .int 0, .int 0, .int 0, .int 0, .int 0, .int 0, .null, .int 0, .int 0, .int 0, .int 0, .null, .int 0, .null, .null, .null, .int 0, .int 0])), (q_1, .inl (cI, 64, .inl g_65)), (q_66, .inl (cI, 16, .inl g_82)), (q_83, .inl (cI, 16, .inl g_99))] := hD
  refine lv_aload_n hx hb dX7_init_574 rfl (lv_at hl 0 rfl) ?_
  refine lv_sipush (v := 8000) hx hb dX7_init_575 (by decide) ?_
  refine knew_byte hx hb ka_byte hK hP hD hS hA (N := 8000) (by decide) (by decide) (Nat.le_of_ble_eq_true rfl) (Nat.le_of_ble_eq_true rfl) (Nat.le_of_ble_eq_true rfl) dX7_init_578 (fun q_100 H hP hD hS => ?_)
  have hP : va_P D vwCl [(h, .inr (6, [.ref q_1, .ref q_66, .ref q_83, .null, .int 0, .null, .int 0, .int 0, .int 0, .int 0, .int 0, .int 0, .int 0, .int 0, .int 0, .int 0, .int 0, .int 0, .int 0, .int 0, .null, .int 0, .int 0, .int 0, .int 0, .null, .int 0, .null, .null, .null, .int 0, .int 0])), (q_1, .inl (cI, 64, .inl g_65)), (q_66, .inl (cI, 16, .inl g_82)), (q_83, .inl (cI, 16, .inl g_99)), (q_100, .inl (cB, 8000, .inl (fun _ => 0)))] H := hP
  have hD : va_D A [(h, .inr (6, [.ref q_1, .ref q_66, .ref q_83, .null, .int 0, .null, .int 0, .int 0, .int 0, .int 0, .int 0, .int 0, .int 0, .int 0, .int 0, .int 0, .int 0, .int 0, .int 0, .int 0, .null, .int 0, .int 0, .int 0, .int 0, .null, .int 0, .null, .null, .null, .int 0, .int 0])), (q_1, .inl (cI, 64, .inl g_65)), (q_66, .inl (cI, 16, .inl g_82)), (q_83, .inl (cI, 16, .inl g_99)), (q_100, .inl (cB, 8000, .inl (fun _ => 0)))] := hD
  refine W.widen (k := 4) (n := 8096) (Nat.le_of_ble_eq_true rfl) (Nat.le_of_ble_eq_true rfl) ?_
  refine va_putF (D := D) (ci := 6) (v := .ref q_100) (ty := (.array .byte)) (C := RX7) (T := TX7) (N := 32) hx hb hts hiX7 tyX7 tyX7_ok nmX7 hown hK hP hD hS 0 rfl rfl 3 (by decide) k19 (fun _ h9 => h9) rfl hin rfl (by decide +kernel) rfl rfl (Nat.le_of_ble_eq_true rfl) dX7_init_580 (fun H locs hP hD hS => ?_)
  have hP : va_P D vwCl [(h, .inr (6, [.ref q_1, .ref q_66, .ref q_83, .ref q_100, .int 0, .null, .int 0, .int 0, .int 0, .int 0, .int 0, .int 0, .int 0, .int 0, .int 0, .int 0, .int 0, .int 0, .int 0, .int 0, .null, .int 0, .int 0, .int 0, .int 0, .null, .int 0, .null, .null, .null, .int 0, .int 0])), (q_1, .inl (cI, 64, .inl g_65)), (q_66, .inl (cI, 16, .inl g_82)), (q_83, .inl (cI, 16, .inl g_99)), (q_100, .inl (cB, 8000, .inl (fun _ => 0)))] H := hP
  have hD : va_D A [(h, .inr (6, [.ref q_1, .ref q_66, .ref q_83, .ref q_100, .int 0, .null, .int 0, .int 0, .int 0, .int 0, .int 0, .int 0, .int 0, .int 0, .int 0, .int 0, .int 0, .int 0, .int 0, .int 0, .null, .int 0, .int 0, .int 0, .int 0, .null, .int 0, .null, .null, .null, .int 0, .int 0])), (q_1, .inl (cI, 64, .inl g_65)), (q_66, .inl (cI, 16, .inl g_82)), (q_83, .inl (cI, 16, .inl g_99)), (q_100, .inl (cB, 8000, .inl (fun _ => 0)))] := hD
  refine lv_aload_n hx hb dX7_init_583 rfl (lv_at hl 0 rfl) ?_
  refine lv_sipush (v := 400) hx hb dX7_init_584 (by decide) ?_
  refine knew_byte hx hb ka_byte hK hP hD hS hA (N := 400) (by decide) (by decide) (Nat.le_of_ble_eq_true rfl) (Nat.le_of_ble_eq_true rfl) (Nat.le_of_ble_eq_true rfl) dX7_init_587 (fun q_101 H hP hD hS => ?_)
  have hP : va_P D vwCl [(h, .inr (6, [.ref q_1, .ref q_66, .ref q_83, .ref q_100, .int 0, .null, .int 0, .int 0, .int 0, .int 0, .int 0, .int 0, .int 0, .int 0, .int 0, .int 0, .int 0, .int 0, .int 0, .int 0, .null, .int 0, .int 0, .int 0, .int 0, .null, .int 0, .null, .null, .null, .int 0, .int 0])), (q_1, .inl (cI, 64, .inl g_65)), (q_66, .inl (cI, 16, .inl g_82)), (q_83, .inl (cI, 16, .inl g_99)), (q_100, .inl (cB, 8000, .inl (fun _ => 0))), (q_101, .inl (cB, 400, .inl (fun _ => 0)))] H := hP
  have hD : va_D A [(h, .inr (6, [.ref q_1, .ref q_66, .ref q_83, .ref q_100, .int 0, .null, .int 0, .int 0, .int 0, .int 0, .int 0, .int 0, .int 0, .int 0, .int 0, .int 0, .int 0, .int 0, .int 0, .int 0, .null, .int 0, .int 0, .int 0, .int 0, .null, .int 0, .null, .null, .null, .int 0, .int 0])), (q_1, .inl (cI, 64, .inl g_65)), (q_66, .inl (cI, 16, .inl g_82)), (q_83, .inl (cI, 16, .inl g_99)), (q_100, .inl (cB, 8000, .inl (fun _ => 0))), (q_101, .inl (cB, 400, .inl (fun _ => 0)))] := hD
  refine W.widen (k := 5) (n := 8496) (Nat.le_of_ble_eq_true rfl) (Nat.le_of_ble_eq_true rfl) ?_
  refine va_putF (D := D) (ci := 6) (v := .ref q_101) (ty := (.array .byte)) (C := RX7) (T := TX7) (N := 32) hx hb hts hiX7 tyX7 tyX7_ok nmX7 hown hK hP hD hS 0 rfl rfl 5 (by decide) k23 (fun _ h9 => h9) rfl hin rfl (by decide +kernel) rfl rfl (Nat.le_of_ble_eq_true rfl) dX7_init_589 (fun H locs hP hD hS => ?_)
  have hP : va_P D vwCl [(h, .inr (6, [.ref q_1, .ref q_66, .ref q_83, .ref q_100, .int 0, .ref q_101, .int 0, .int 0, .int 0, .int 0, .int 0, .int 0, .int 0, .int 0, .int 0, .int 0, .int 0, .int 0, .int 0, .int 0, .null, .int 0, .int 0, .int 0, .int 0, .null, .int 0, .null, .null, .null, .int 0, .int 0])), (q_1, .inl (cI, 64, .inl g_65)), (q_66, .inl (cI, 16, .inl g_82)), (q_83, .inl (cI, 16, .inl g_99)), (q_100, .inl (cB, 8000, .inl (fun _ => 0))), (q_101, .inl (cB, 400, .inl (fun _ => 0)))] H := hP
  have hD : va_D A [(h, .inr (6, [.ref q_1, .ref q_66, .ref q_83, .ref q_100, .int 0, .ref q_101, .int 0, .int 0, .int 0, .int 0, .int 0, .int 0, .int 0, .int 0, .int 0, .int 0, .int 0, .int 0, .int 0, .int 0, .null, .int 0, .int 0, .int 0, .int 0, .null, .int 0, .null, .null, .null, .int 0, .int 0])), (q_1, .inl (cI, 64, .inl g_65)), (q_66, .inl (cI, 16, .inl g_82)), (q_83, .inl (cI, 16, .inl g_99)), (q_100, .inl (cB, 8000, .inl (fun _ => 0))), (q_101, .inl (cB, 400, .inl (fun _ => 0)))] := hD
  refine lv_aload_n hx hb dX7_init_592 rfl (lv_at hl 0 rfl) ?_
  refine lv_iconst (v := (-1)) hx hb dX7_init_593 (by decide) ?_
  refine va_put (D := D) (ci := 6) (v := .int (-1)) (ty := .int) (C := RX7) (T := TX7) (N := 32) hx hb hts hiX7 tyX7 tyX7_ok nmX7 hown hK hP hD hS 0 rfl rfl 7 (by decide) k26 (fun _ h9 => h9) rfl (by decide +kernel) rfl rfl (Nat.le_of_ble_eq_true rfl) dX7_init_594 (fun H locs hP hD hS => ?_)
  have hP : va_P D vwCl [(h, .inr (6, [.ref q_1, .ref q_66, .ref q_83, .ref q_100, .int 0, .ref q_101, .int 0, .int (-1), .int 0, .int 0, .int 0, .int 0, .int 0, .int 0, .int 0, .int 0, .int 0, .int 0, .int 0, .int 0, .null, .int 0, .int 0, .int 0, .int 0, .null, .int 0, .null, .null, .null, .int 0, .int 0])), (q_1, .inl (cI, 64, .inl g_65)), (q_66, .inl (cI, 16, .inl g_82)), (q_83, .inl (cI, 16, .inl g_99)), (q_100, .inl (cB, 8000, .inl (fun _ => 0))), (q_101, .inl (cB, 400, .inl (fun _ => 0)))] H := hP
  have hD : va_D A [(h, .inr (6, [.ref q_1, .ref q_66, .ref q_83, .ref q_100, .int 0, .ref q_101, .int 0, .int (-1), .int 0, .int 0, .int 0, .int 0, .int 0, .int 0, .int 0, .int 0, .int 0, .int 0, .int 0, .int 0, .null, .int 0, .int 0, .int 0, .int 0, .null, .int 0, .null, .null, .null, .int 0, .int 0])), (q_1, .inl (cI, 64, .inl g_65)), (q_66, .inl (cI, 16, .inl g_82)), (q_83, .inl (cI, 16, .inl g_99)), (q_100, .inl (cB, 8000, .inl (fun _ => 0))), (q_101, .inl (cB, 400, .inl (fun _ => 0)))] := hD
  refine lv_aload_n hx hb dX7_init_597 rfl (lv_at hl 0 rfl) ?_
  refine lv_iconst (v := (-1)) hx hb dX7_init_598 (by decide) ?_
  refine va_put (D := D) (ci := 6) (v := .int (-1)) (ty := .int) (C := RX7) (T := TX7) (N := 32) hx hb hts hiX7 tyX7 tyX7_ok nmX7 hown hK hP hD hS 0 rfl rfl 9 (by decide) k30 (fun _ h9 => h9) rfl (by decide +kernel) rfl rfl (Nat.le_of_ble_eq_true rfl) dX7_init_599 (fun H locs hP hD hS => ?_)
  have hP : va_P D vwCl [(h, .inr (6, [.ref q_1, .ref q_66, .ref q_83, .ref q_100, .int 0, .ref q_101, .int 0, .int (-1), .int 0, .int (-1), .int 0, .int 0, .int 0, .int 0, .int 0, .int 0, .int 0, .int 0, .int 0, .int 0, .null, .int 0, .int 0, .int 0, .int 0, .null, .int 0, .null, .null, .null, .int 0, .int 0])), (q_1, .inl (cI, 64, .inl g_65)), (q_66, .inl (cI, 16, .inl g_82)), (q_83, .inl (cI, 16, .inl g_99)), (q_100, .inl (cB, 8000, .inl (fun _ => 0))), (q_101, .inl (cB, 400, .inl (fun _ => 0)))] H := hP
  have hD : va_D A [(h, .inr (6, [.ref q_1, .ref q_66, .ref q_83, .ref q_100, .int 0, .ref q_101, .int 0, .int (-1), .int 0, .int (-1), .int 0, .int 0, .int 0, .int 0, .int 0, .int 0, .int 0, .int 0, .int 0, .int 0, .null, .int 0, .int 0, .int 0, .int 0, .null, .int 0, .null, .null, .null, .int 0, .int 0])), (q_1, .inl (cI, 64, .inl g_65)), (q_66, .inl (cI, 16, .inl g_82)), (q_83, .inl (cI, 16, .inl g_99)), (q_100, .inl (cB, 8000, .inl (fun _ => 0))), (q_101, .inl (cB, 400, .inl (fun _ => 0)))] := hD
  refine lv_aload_n hx hb dX7_init_602 rfl (lv_at hl 0 rfl) ?_
  refine lv_bipush (v := 100) hx hb dX7_init_603 (by decide) ?_
  refine knew_int hx hb ka_int hK hP hD hS hA (N := 100) (by decide) (by decide) (Nat.le_of_ble_eq_true rfl) (Nat.le_of_ble_eq_true rfl) (Nat.le_of_ble_eq_true rfl) dX7_init_605 (fun q_102 H hP hD hS => ?_)
  have hP : va_P D vwCl [(h, .inr (6, [.ref q_1, .ref q_66, .ref q_83, .ref q_100, .int 0, .ref q_101, .int 0, .int (-1), .int 0, .int (-1), .int 0, .int 0, .int 0, .int 0, .int 0, .int 0, .int 0, .int 0, .int 0, .int 0, .null, .int 0, .int 0, .int 0, .int 0, .null, .int 0, .null, .null, .null, .int 0, .int 0])), (q_1, .inl (cI, 64, .inl g_65)), (q_66, .inl (cI, 16, .inl g_82)), (q_83, .inl (cI, 16, .inl g_99)), (q_100, .inl (cB, 8000, .inl (fun _ => 0))), (q_101, .inl (cB, 400, .inl (fun _ => 0))), (q_102, .inl (cI, 100, .inl (fun _ => 0)))] H := hP
  have hD : va_D A [(h, .inr (6, [.ref q_1, .ref q_66, .ref q_83, .ref q_100, .int 0, .ref q_101, .int 0, .int (-1), .int 0, .int (-1), .int 0, .int 0, .int 0, .int 0, .int 0, .int 0, .int 0, .int 0, .int 0, .int 0, .null, .int 0, .int 0, .int 0, .int 0, .null, .int 0, .null, .null, .null, .int 0, .int 0])), (q_1, .inl (cI, 64, .inl g_65)), (q_66, .inl (cI, 16, .inl g_82)), (q_83, .inl (cI, 16, .inl g_99)), (q_100, .inl (cB, 8000, .inl (fun _ => 0))), (q_101, .inl (cB, 400, .inl (fun _ => 0))), (q_102, .inl (cI, 100, .inl (fun _ => 0)))] := hD
  refine W.widen (k := 6) (n := 8596) (Nat.le_of_ble_eq_true rfl) (Nat.le_of_ble_eq_true rfl) ?_
  refine va_putF (D := D) (ci := 6) (v := .ref q_102) (ty := (.array .int)) (C := RX7) (T := TX7) (N := 32) hx hb hts hiX7 tyX7 tyX7_ok nmX7 hown hK hP hD hS 0 rfl rfl 20 (by decide) k33 (fun _ h9 => h9) rfl hin rfl (by decide +kernel) rfl rfl (Nat.le_of_ble_eq_true rfl) dX7_init_607 (fun H locs hP hD hS => ?_)
  have hP : va_P D vwCl [(h, .inr (6, [.ref q_1, .ref q_66, .ref q_83, .ref q_100, .int 0, .ref q_101, .int 0, .int (-1), .int 0, .int (-1), .int 0, .int 0, .int 0, .int 0, .int 0, .int 0, .int 0, .int 0, .int 0, .int 0, .ref q_102, .int 0, .int 0, .int 0, .int 0, .null, .int 0, .null, .null, .null, .int 0, .int 0])), (q_1, .inl (cI, 64, .inl g_65)), (q_66, .inl (cI, 16, .inl g_82)), (q_83, .inl (cI, 16, .inl g_99)), (q_100, .inl (cB, 8000, .inl (fun _ => 0))), (q_101, .inl (cB, 400, .inl (fun _ => 0))), (q_102, .inl (cI, 100, .inl (fun _ => 0)))] H := hP
  have hD : va_D A [(h, .inr (6, [.ref q_1, .ref q_66, .ref q_83, .ref q_100, .int 0, .ref q_101, .int 0, .int (-1), .int 0, .int (-1), .int 0, .int 0, .int 0, .int 0, .int 0, .int 0, .int 0, .int 0, .int 0, .int 0, .ref q_102, .int 0, .int 0, .int 0, .int 0, .null, .int 0, .null, .null, .null, .int 0, .int 0])), (q_1, .inl (cI, 64, .inl g_65)), (q_66, .inl (cI, 16, .inl g_82)), (q_83, .inl (cI, 16, .inl g_99)), (q_100, .inl (cB, 8000, .inl (fun _ => 0))), (q_101, .inl (cB, 400, .inl (fun _ => 0))), (q_102, .inl (cI, 100, .inl (fun _ => 0)))] := hD
  refine lv_aload_n hx hb dX7_init_610 rfl (lv_at hl 0 rfl) ?_
  refine lv_sipush (v := 300) hx hb dX7_init_611 (by decide) ?_
  refine knew_byte hx hb ka_byte hK hP hD hS hA (N := 300) (by decide) (by decide) (Nat.le_of_ble_eq_true rfl) (Nat.le_of_ble_eq_true rfl) (Nat.le_of_ble_eq_true rfl) dX7_init_614 (fun q_103 H hP hD hS => ?_)
  have hP : va_P D vwCl [(h, .inr (6, [.ref q_1, .ref q_66, .ref q_83, .ref q_100, .int 0, .ref q_101, .int 0, .int (-1), .int 0, .int (-1), .int 0, .int 0, .int 0, .int 0, .int 0, .int 0, .int 0, .int 0, .int 0, .int 0, .ref q_102, .int 0, .int 0, .int 0, .int 0, .null, .int 0, .null, .null, .null, .int 0, .int 0])), (q_1, .inl (cI, 64, .inl g_65)), (q_66, .inl (cI, 16, .inl g_82)), (q_83, .inl (cI, 16, .inl g_99)), (q_100, .inl (cB, 8000, .inl (fun _ => 0))), (q_101, .inl (cB, 400, .inl (fun _ => 0))), (q_102, .inl (cI, 100, .inl (fun _ => 0))), (q_103, .inl (cB, 300, .inl (fun _ => 0)))] H := hP
  have hD : va_D A [(h, .inr (6, [.ref q_1, .ref q_66, .ref q_83, .ref q_100, .int 0, .ref q_101, .int 0, .int (-1), .int 0, .int (-1), .int 0, .int 0, .int 0, .int 0, .int 0, .int 0, .int 0, .int 0, .int 0, .int 0, .ref q_102, .int 0, .int 0, .int 0, .int 0, .null, .int 0, .null, .null, .null, .int 0, .int 0])), (q_1, .inl (cI, 64, .inl g_65)), (q_66, .inl (cI, 16, .inl g_82)), (q_83, .inl (cI, 16, .inl g_99)), (q_100, .inl (cB, 8000, .inl (fun _ => 0))), (q_101, .inl (cB, 400, .inl (fun _ => 0))), (q_102, .inl (cI, 100, .inl (fun _ => 0))), (q_103, .inl (cB, 300, .inl (fun _ => 0)))] := hD
  refine W.widen (k := 7) (n := 8896) (Nat.le_of_ble_eq_true rfl) (Nat.le_of_ble_eq_true rfl) ?_
  refine va_putF (D := D) (ci := 6) (v := .ref q_103) (ty := (.array .byte)) (C := RX7) (T := TX7) (N := 32) hx hb hts hiX7 tyX7 tyX7_ok nmX7 hown hK hP hD hS 0 rfl rfl 25 (by decide) k36 (fun _ h9 => h9) rfl hin rfl (by decide +kernel) rfl rfl (Nat.le_of_ble_eq_true rfl) dX7_init_616 (fun H locs hP hD hS => ?_)
  have hP : va_P D vwCl [(h, .inr (6, [.ref q_1, .ref q_66, .ref q_83, .ref q_100, .int 0, .ref q_101, .int 0, .int (-1), .int 0, .int (-1), .int 0, .int 0, .int 0, .int 0, .int 0, .int 0, .int 0, .int 0, .int 0, .int 0, .ref q_102, .int 0, .int 0, .int 0, .int 0, .ref q_103, .int 0, .null, .null, .null, .int 0, .int 0])), (q_1, .inl (cI, 64, .inl g_65)), (q_66, .inl (cI, 16, .inl g_82)), (q_83, .inl (cI, 16, .inl g_99)), (q_100, .inl (cB, 8000, .inl (fun _ => 0))), (q_101, .inl (cB, 400, .inl (fun _ => 0))), (q_102, .inl (cI, 100, .inl (fun _ => 0))), (q_103, .inl (cB, 300, .inl (fun _ => 0)))] H := hP
  have hD : va_D A [(h, .inr (6, [.ref q_1, .ref q_66, .ref q_83, .ref q_100, .int 0, .ref q_101, .int 0, .int (-1), .int 0, .int (-1), .int 0, .int 0, .int 0, .int 0, .int 0, .int 0, .int 0, .int 0, .int 0, .int 0, .ref q_102, .int 0, .int 0, .int 0, .int 0, .ref q_103, .int 0, .null, .null, .null, .int 0, .int 0])), (q_1, .inl (cI, 64, .inl g_65)), (q_66, .inl (cI, 16, .inl g_82)), (q_83, .inl (cI, 16, .inl g_99)), (q_100, .inl (cB, 8000, .inl (fun _ => 0))), (q_101, .inl (cB, 400, .inl (fun _ => 0))), (q_102, .inl (cI, 100, .inl (fun _ => 0))), (q_103, .inl (cB, 300, .inl (fun _ => 0)))] := hD
  refine lv_aload_n hx hb dX7_init_619 rfl (lv_at hl 0 rfl) ?_
  refine lv_bipush (v := 40) hx hb dX7_init_620 (by decide) ?_
  refine knew_int hx hb ka_int hK hP hD hS hA (N := 40) (by decide) (by decide) (Nat.le_of_ble_eq_true rfl) (Nat.le_of_ble_eq_true rfl) (Nat.le_of_ble_eq_true rfl) dX7_init_622 (fun q_104 H hP hD hS => ?_)
  have hP : va_P D vwCl [(h, .inr (6, [.ref q_1, .ref q_66, .ref q_83, .ref q_100, .int 0, .ref q_101, .int 0, .int (-1), .int 0, .int (-1), .int 0, .int 0, .int 0, .int 0, .int 0, .int 0, .int 0, .int 0, .int 0, .int 0, .ref q_102, .int 0, .int 0, .int 0, .int 0, .ref q_103, .int 0, .null, .null, .null, .int 0, .int 0])), (q_1, .inl (cI, 64, .inl g_65)), (q_66, .inl (cI, 16, .inl g_82)), (q_83, .inl (cI, 16, .inl g_99)), (q_100, .inl (cB, 8000, .inl (fun _ => 0))), (q_101, .inl (cB, 400, .inl (fun _ => 0))), (q_102, .inl (cI, 100, .inl (fun _ => 0))), (q_103, .inl (cB, 300, .inl (fun _ => 0))), (q_104, .inl (cI, 40, .inl (fun _ => 0)))] H := hP
  have hD : va_D A [(h, .inr (6, [.ref q_1, .ref q_66, .ref q_83, .ref q_100, .int 0, .ref q_101, .int 0, .int (-1), .int 0, .int (-1), .int 0, .int 0, .int 0, .int 0, .int 0, .int 0, .int 0, .int 0, .int 0, .int 0, .ref q_102, .int 0, .int 0, .int 0, .int 0, .ref q_103, .int 0, .null, .null, .null, .int 0, .int 0])), (q_1, .inl (cI, 64, .inl g_65)), (q_66, .inl (cI, 16, .inl g_82)), (q_83, .inl (cI, 16, .inl g_99)), (q_100, .inl (cB, 8000, .inl (fun _ => 0))), (q_101, .inl (cB, 400, .inl (fun _ => 0))), (q_102, .inl (cI, 100, .inl (fun _ => 0))), (q_103, .inl (cB, 300, .inl (fun _ => 0))), (q_104, .inl (cI, 40, .inl (fun _ => 0)))] := hD
  refine W.widen (k := 8) (n := 8936) (Nat.le_of_ble_eq_true rfl) (Nat.le_of_ble_eq_true rfl) ?_
  refine va_putF (D := D) (ci := 6) (v := .ref q_104) (ty := (.array .int)) (C := RX7) (T := TX7) (N := 32) hx hb hts hiX7 tyX7 tyX7_ok nmX7 hown hK hP hD hS 0 rfl rfl 27 (by decide) k39 (fun _ h9 => h9) rfl hin rfl (by decide +kernel) rfl rfl (Nat.le_of_ble_eq_true rfl) dX7_init_624 (fun H locs hP hD hS => ?_)
  have hP : va_P D vwCl [(h, .inr (6, [.ref q_1, .ref q_66, .ref q_83, .ref q_100, .int 0, .ref q_101, .int 0, .int (-1), .int 0, .int (-1), .int 0, .int 0, .int 0, .int 0, .int 0, .int 0, .int 0, .int 0, .int 0, .int 0, .ref q_102, .int 0, .int 0, .int 0, .int 0, .ref q_103, .int 0, .ref q_104, .null, .null, .int 0, .int 0])), (q_1, .inl (cI, 64, .inl g_65)), (q_66, .inl (cI, 16, .inl g_82)), (q_83, .inl (cI, 16, .inl g_99)), (q_100, .inl (cB, 8000, .inl (fun _ => 0))), (q_101, .inl (cB, 400, .inl (fun _ => 0))), (q_102, .inl (cI, 100, .inl (fun _ => 0))), (q_103, .inl (cB, 300, .inl (fun _ => 0))), (q_104, .inl (cI, 40, .inl (fun _ => 0)))] H := hP
  have hD : va_D A [(h, .inr (6, [.ref q_1, .ref q_66, .ref q_83, .ref q_100, .int 0, .ref q_101, .int 0, .int (-1), .int 0, .int (-1), .int 0, .int 0, .int 0, .int 0, .int 0, .int 0, .int 0, .int 0, .int 0, .int 0, .ref q_102, .int 0, .int 0, .int 0, .int 0, .ref q_103, .int 0, .ref q_104, .null, .null, .int 0, .int 0])), (q_1, .inl (cI, 64, .inl g_65)), (q_66, .inl (cI, 16, .inl g_82)), (q_83, .inl (cI, 16, .inl g_99)), (q_100, .inl (cB, 8000, .inl (fun _ => 0))), (q_101, .inl (cB, 400, .inl (fun _ => 0))), (q_102, .inl (cI, 100, .inl (fun _ => 0))), (q_103, .inl (cB, 300, .inl (fun _ => 0))), (q_104, .inl (cI, 40, .inl (fun _ => 0)))] := hD
  refine lv_aload_n hx hb dX7_init_627 rfl (lv_at hl 0 rfl) ?_
  refine lv_bipush (v := 40) hx hb dX7_init_628 (by decide) ?_
  refine knew_boolean hx hb ka_boolean hK hP hD hS hA (N := 40) (by decide) (by decide) (Nat.le_of_ble_eq_true rfl) (Nat.le_of_ble_eq_true rfl) (Nat.le_of_ble_eq_true rfl) dX7_init_630 (fun q_105 H hP hD hS => ?_)
  have hP : va_P D vwCl [(h, .inr (6, [.ref q_1, .ref q_66, .ref q_83, .ref q_100, .int 0, .ref q_101, .int 0, .int (-1), .int 0, .int (-1), .int 0, .int 0, .int 0, .int 0, .int 0, .int 0, .int 0, .int 0, .int 0, .int 0, .ref q_102, .int 0, .int 0, .int 0, .int 0, .ref q_103, .int 0, .ref q_104, .null, .null, .int 0, .int 0])), (q_1, .inl (cI, 64, .inl g_65)), (q_66, .inl (cI, 16, .inl g_82)), (q_83, .inl (cI, 16, .inl g_99)), (q_100, .inl (cB, 8000, .inl (fun _ => 0))), (q_101, .inl (cB, 400, .inl (fun _ => 0))), (q_102, .inl (cI, 100, .inl (fun _ => 0))), (q_103, .inl (cB, 300, .inl (fun _ => 0))), (q_104, .inl (cI, 40, .inl (fun _ => 0))), (q_105, .inl (cZ, 40, .inl (fun _ => 0)))] H := hP
  have hD : va_D A [(h, .inr (6, [.ref q_1, .ref q_66, .ref q_83, .ref q_100, .int 0, .ref q_101, .int 0, .int (-1), .int 0, .int (-1), .int 0, .int 0, .int 0, .int 0, .int 0, .int 0, .int 0, .int 0, .int 0, .int 0, .ref q_102, .int 0, .int 0, .int 0, .int 0, .ref q_103, .int 0, .ref q_104, .null, .null, .int 0, .int 0])), (q_1, .inl (cI, 64, .inl g_65)), (q_66, .inl (cI, 16, .inl g_82)), (q_83, .inl (cI, 16, .inl g_99)), (q_100, .inl (cB, 8000, .inl (fun _ => 0))), (q_101, .inl (cB, 400, .inl (fun _ => 0))), (q_102, .inl (cI, 100, .inl (fun _ => 0))), (q_103, .inl (cB, 300, .inl (fun _ => 0))), (q_104, .inl (cI, 40, .inl (fun _ => 0))), (q_105, .inl (cZ, 40, .inl (fun _ => 0)))] := hD
  refine W.widen (k := 9) (n := 8976) (Nat.le_of_ble_eq_true rfl) (Nat.le_of_ble_eq_true rfl) ?_
  refine va_putF (D := D) (ci := 6) (v := .ref q_105) (ty := (.array .boolean)) (C := RX7) (T := TX7) (N := 32) hx hb hts hiX7 tyX7 tyX7_ok nmX7 hown hK hP hD hS 0 rfl rfl 28 (by decide) k42 (fun _ h9 => h9) rfl hin rfl (by decide +kernel) rfl rfl (Nat.le_of_ble_eq_true rfl) dX7_init_632 (fun H locs hP hD hS => ?_)
  have hP : va_P D vwCl [(h, .inr (6, [.ref q_1, .ref q_66, .ref q_83, .ref q_100, .int 0, .ref q_101, .int 0, .int (-1), .int 0, .int (-1), .int 0, .int 0, .int 0, .int 0, .int 0, .int 0, .int 0, .int 0, .int 0, .int 0, .ref q_102, .int 0, .int 0, .int 0, .int 0, .ref q_103, .int 0, .ref q_104, .ref q_105, .null, .int 0, .int 0])), (q_1, .inl (cI, 64, .inl g_65)), (q_66, .inl (cI, 16, .inl g_82)), (q_83, .inl (cI, 16, .inl g_99)), (q_100, .inl (cB, 8000, .inl (fun _ => 0))), (q_101, .inl (cB, 400, .inl (fun _ => 0))), (q_102, .inl (cI, 100, .inl (fun _ => 0))), (q_103, .inl (cB, 300, .inl (fun _ => 0))), (q_104, .inl (cI, 40, .inl (fun _ => 0))), (q_105, .inl (cZ, 40, .inl (fun _ => 0)))] H := hP
  have hD : va_D A [(h, .inr (6, [.ref q_1, .ref q_66, .ref q_83, .ref q_100, .int 0, .ref q_101, .int 0, .int (-1), .int 0, .int (-1), .int 0, .int 0, .int 0, .int 0, .int 0, .int 0, .int 0, .int 0, .int 0, .int 0, .ref q_102, .int 0, .int 0, .int 0, .int 0, .ref q_103, .int 0, .ref q_104, .ref q_105, .null, .int 0, .int 0])), (q_1, .inl (cI, 64, .inl g_65)), (q_66, .inl (cI, 16, .inl g_82)), (q_83, .inl (cI, 16, .inl g_99)), (q_100, .inl (cB, 8000, .inl (fun _ => 0))), (q_101, .inl (cB, 400, .inl (fun _ => 0))), (q_102, .inl (cI, 100, .inl (fun _ => 0))), (q_103, .inl (cB, 300, .inl (fun _ => 0))), (q_104, .inl (cI, 40, .inl (fun _ => 0))), (q_105, .inl (cZ, 40, .inl (fun _ => 0)))] := hD
  refine lv_aload_n hx hb dX7_init_635 rfl (lv_at hl 0 rfl) ?_
  refine lv_sipush (v := 12000) hx hb dX7_init_636 (by decide) ?_
  refine knew_byte hx hb ka_byte hK hP hD hS hA (N := 12000) (by decide) (by decide) (Nat.le_of_ble_eq_true rfl) (Nat.le_of_ble_eq_true rfl) (Nat.le_of_ble_eq_true rfl) dX7_init_639 (fun q_106 H hP hD hS => ?_)
  have hP : va_P D vwCl [(h, .inr (6, [.ref q_1, .ref q_66, .ref q_83, .ref q_100, .int 0, .ref q_101, .int 0, .int (-1), .int 0, .int (-1), .int 0, .int 0, .int 0, .int 0, .int 0, .int 0, .int 0, .int 0, .int 0, .int 0, .ref q_102, .int 0, .int 0, .int 0, .int 0, .ref q_103, .int 0, .ref q_104, .ref q_105, .null, .int 0, .int 0])), (q_1, .inl (cI, 64, .inl g_65)), (q_66, .inl (cI, 16, .inl g_82)), (q_83, .inl (cI, 16, .inl g_99)), (q_100, .inl (cB, 8000, .inl (fun _ => 0))), (q_101, .inl (cB, 400, .inl (fun _ => 0))), (q_102, .inl (cI, 100, .inl (fun _ => 0))), (q_103, .inl (cB, 300, .inl (fun _ => 0))), (q_104, .inl (cI, 40, .inl (fun _ => 0))), (q_105, .inl (cZ, 40, .inl (fun _ => 0))), (q_106, .inl (cB, 12000, .inl (fun _ => 0)))] H := hP
  have hD : va_D A [(h, .inr (6, [.ref q_1, .ref q_66, .ref q_83, .ref q_100, .int 0, .ref q_101, .int 0, .int (-1), .int 0, .int (-1), .int 0, .int 0, .int 0, .int 0, .int 0, .int 0, .int 0, .int 0, .int 0, .int 0, .ref q_102, .int 0, .int 0, .int 0, .int 0, .ref q_103, .int 0, .ref q_104, .ref q_105, .null, .int 0, .int 0])), (q_1, .inl (cI, 64, .inl g_65)), (q_66, .inl (cI, 16, .inl g_82)), (q_83, .inl (cI, 16, .inl g_99)), (q_100, .inl (cB, 8000, .inl (fun _ => 0))), (q_101, .inl (cB, 400, .inl (fun _ => 0))), (q_102, .inl (cI, 100, .inl (fun _ => 0))), (q_103, .inl (cB, 300, .inl (fun _ => 0))), (q_104, .inl (cI, 40, .inl (fun _ => 0))), (q_105, .inl (cZ, 40, .inl (fun _ => 0))), (q_106, .inl (cB, 12000, .inl (fun _ => 0)))] := hD
  refine W.widen (k := 10) (n := 20976) (Nat.le_of_ble_eq_true rfl) (Nat.le_of_ble_eq_true rfl) ?_
  refine va_putF (D := D) (ci := 6) (v := .ref q_106) (ty := (.array .byte)) (C := RX7) (T := TX7) (N := 32) hx hb hts hiX7 tyX7 tyX7_ok nmX7 hown hK hP hD hS 0 rfl rfl 29 (by decide) k46 (fun _ h9 => h9) rfl hin rfl (by decide +kernel) rfl rfl (Nat.le_of_ble_eq_true rfl) dX7_init_641 (fun H locs hP hD hS => ?_)
  have hP : va_P D vwCl [(h, .inr (6, [.ref q_1, .ref q_66, .ref q_83, .ref q_100, .int 0, .ref q_101, .int 0, .int (-1), .int 0, .int (-1), .int 0, .int 0, .int 0, .int 0, .int 0, .int 0, .int 0, .int 0, .int 0, .int 0, .ref q_102, .int 0, .int 0, .int 0, .int 0, .ref q_103, .int 0, .ref q_104, .ref q_105, .ref q_106, .int 0, .int 0])), (q_1, .inl (cI, 64, .inl g_65)), (q_66, .inl (cI, 16, .inl g_82)), (q_83, .inl (cI, 16, .inl g_99)), (q_100, .inl (cB, 8000, .inl (fun _ => 0))), (q_101, .inl (cB, 400, .inl (fun _ => 0))), (q_102, .inl (cI, 100, .inl (fun _ => 0))), (q_103, .inl (cB, 300, .inl (fun _ => 0))), (q_104, .inl (cI, 40, .inl (fun _ => 0))), (q_105, .inl (cZ, 40, .inl (fun _ => 0))), (q_106, .inl (cB, 12000, .inl (fun _ => 0)))] H := hP
  have hD : va_D A [(h, .inr (6, [.ref q_1, .ref q_66, .ref q_83, .ref q_100, .int 0, .ref q_101, .int 0, .int (-1), .int 0, .int (-1), .int 0, .int 0, .int 0, .int 0, .int 0, .int 0, .int 0, .int 0, .int 0, .int 0, .ref q_102, .int 0, .int 0, .int 0, .int 0, .ref q_103, .int 0, .ref q_104, .ref q_105, .ref q_106, .int 0, .int 0])), (q_1, .inl (cI, 64, .inl g_65)), (q_66, .inl (cI, 16, .inl g_82)), (q_83, .inl (cI, 16, .inl g_99)), (q_100, .inl (cB, 8000, .inl (fun _ => 0))), (q_101, .inl (cB, 400, .inl (fun _ => 0))), (q_102, .inl (cI, 100, .inl (fun _ => 0))), (q_103, .inl (cB, 300, .inl (fun _ => 0))), (q_104, .inl (cI, 40, .inl (fun _ => 0))), (q_105, .inl (cZ, 40, .inl (fun _ => 0))), (q_106, .inl (cB, 12000, .inl (fun _ => 0)))] := hD
  refine lv_aload_n hx hb dX7_init_644 rfl (lv_at hl 0 rfl) ?_
  refine lv_iconst (v := 0) hx hb dX7_init_645 (by decide) ?_
  refine va_put (D := D) (ci := 6) (v := .int 0) (ty := .int) (C := RX7) (T := TX7) (N := 32) hx hb hts hiX7 tyX7 tyX7_ok nmX7 hown hK hP hD hS 0 rfl rfl 4 (by decide) k49 (fun _ h9 => h9) rfl (by decide +kernel) rfl rfl (Nat.le_of_ble_eq_true rfl) dX7_init_646 (fun H locs hP hD hS => ?_)
  have hP : va_P D vwCl [(h, .inr (6, [.ref q_1, .ref q_66, .ref q_83, .ref q_100, .int 0, .ref q_101, .int 0, .int (-1), .int 0, .int (-1), .int 0, .int 0, .int 0, .int 0, .int 0, .int 0, .int 0, .int 0, .int 0, .int 0, .ref q_102, .int 0, .int 0, .int 0, .int 0, .ref q_103, .int 0, .ref q_104, .ref q_105, .ref q_106, .int 0, .int 0])), (q_1, .inl (cI, 64, .inl g_65)), (q_66, .inl (cI, 16, .inl g_82)), (q_83, .inl (cI, 16, .inl g_99)), (q_100, .inl (cB, 8000, .inl (fun _ => 0))), (q_101, .inl (cB, 400, .inl (fun _ => 0))), (q_102, .inl (cI, 100, .inl (fun _ => 0))), (q_103, .inl (cB, 300, .inl (fun _ => 0))), (q_104, .inl (cI, 40, .inl (fun _ => 0))), (q_105, .inl (cZ, 40, .inl (fun _ => 0))), (q_106, .inl (cB, 12000, .inl (fun _ => 0)))] H := hP
  have hD : va_D A [(h, .inr (6, [.ref q_1, .ref q_66, .ref q_83, .ref q_100, .int 0, .ref q_101, .int 0, .int (-1), .int 0, .int (-1), .int 0, .int 0, .int 0, .int 0, .int 0, .int 0, .int 0, .int 0, .int 0, .int 0, .ref q_102, .int 0, .int 0, .int 0, .int 0, .ref q_103, .int 0, .ref q_104, .ref q_105, .ref q_106, .int 0, .int 0])), (q_1, .inl (cI, 64, .inl g_65)), (q_66, .inl (cI, 16, .inl g_82)), (q_83, .inl (cI, 16, .inl g_99)), (q_100, .inl (cB, 8000, .inl (fun _ => 0))), (q_101, .inl (cB, 400, .inl (fun _ => 0))), (q_102, .inl (cI, 100, .inl (fun _ => 0))), (q_103, .inl (cB, 300, .inl (fun _ => 0))), (q_104, .inl (cI, 40, .inl (fun _ => 0))), (q_105, .inl (cZ, 40, .inl (fun _ => 0))), (q_106, .inl (cB, 12000, .inl (fun _ => 0)))] := hD
  have hP9 := hP.sub (ws' := [(h, .inr (6, [.ref q_1, .ref q_66, .ref q_83, .ref q_100, .int 0, .ref q_101, .int 0, .int (-1), .int 0, .int (-1), .int 0, .int 0, .int 0, .int 0, .int 0, .int 0, .int 0, .int 0, .int 0, .int 0, .ref q_102, .int 0, .int 0, .int 0, .int 0, .ref q_103, .int 0, .ref q_104, .ref q_105, .ref q_106, .int 0, .int 0])), (q_1, .inl (cI, 64, .inl g_65)), (q_66, .inl (cI, 16, .inl g_82)), (q_83, .inl (cI, 16, .inl g_99)), (q_100, .inl (cB, 8000, .inl (fun _ => 0))), (q_101, .inl (cB, 400, .inl (fun _ => 0))), (q_102, .inl (cI, 100, .inl (fun _ => 0))), (q_103, .inl (cB, 300, .inl (fun _ => 0))), (q_104, .inl (cI, 40, .inl (fun _ => 0))), (q_105, .inl (cZ, 40, .inl (fun _ => 0))), (q_106, .inl (cB, 12000, .inl (fun _ => 0)))]) [0, 1, 2, 3, 4, 5, 6, 7, 8, 9, 10] rfl
  have hD9 := hD.sub (ws' := [(h, .inr (6, [.ref q_1, .ref q_66, .ref q_83, .ref q_100, .int 0, .ref q_101, .int 0, .int (-1), .int 0, .int (-1), .int 0, .int 0, .int 0, .int 0, .int 0, .int 0, .int 0, .int 0, .int 0, .int 0, .ref q_102, .int 0, .int 0, .int 0, .int 0, .ref q_103, .int 0, .ref q_104, .ref q_105, .ref q_106, .int 0, .int 0])), (q_1, .inl (cI, 64, .inl g_65)), (q_66, .inl (cI, 16, .inl g_82)), (q_83, .inl (cI, 16, .inl g_99)), (q_100, .inl (cB, 8000, .inl (fun _ => 0))), (q_101, .inl (cB, 400, .inl (fun _ => 0))), (q_102, .inl (cI, 100, .inl (fun _ => 0))), (q_103, .inl (cB, 300, .inl (fun _ => 0))), (q_104, .inl (cI, 40, .inl (fun _ => 0))), (q_105, .inl (cZ, 40, .inl (fun _ => 0))), (q_106, .inl (cB, 12000, .inl (fun _ => 0)))]) [0, 1, 2, 3, 4, 5, 6, 7, 8, 9, 10] (by decide) rfl
  exact W.vret hx hb hr (fun t ht hW => ⟨⟨(q_1, q_66, q_83, q_100, q_101, q_102, q_103, q_104, q_105, q_106, g_65, g_82, g_99), rfl, ⟨hs_65, hs_82, hs_99⟩, by rw [ht]; exact hP9, va_K.moved hW.alike hK, hD9⟩, hS.F ht⟩) hS.2.2 dX7_init_649

abbrev rmX5_keep : Room := { frames := 1, cells := 0, slots := 0, locals := 21 }
def f_X5_keep (what : Int32) (S : LgS) : LgS := match S with | (s_0, s_1, s_2, s_3) => (if s_1 < 0 then (s_0, s_1, s_2, s_3) else (if s_1 < 100 then (if what = (-1) then ((upd s_0 (s_1).toNatClampNeg 512), ((s_1 + 1) - (s_1 + 1) / 100 * 100), (if 100 < (s_2 + 1) then 100 else (s_2 + 1)), (s_3 + 1)) else ((upd s_0 (s_1).toNatClampNeg what), ((s_1 + 1) - (s_1 + 1) / 100 * 100), (if 100 < (s_2 + 1) then 100 else (s_2 + 1)), (s_3 + 1))) else (s_0, s_1, s_2, s_3)))
set_option maxHeartbeats 4000000 in
set_option maxRecDepth 100000 in
theorem c_X5_keep (l : Launch) (D : va_G) (cB cI cZ : ClassId) (h ha0 : Nat) (S : LgS) (what : Int32) : CtV l yX5_keep wsX5_keep rmX5_keep D (tyv cB cI cZ) [.ref h, .int what] (wLg cB cI cZ h ha0 S) (wLg cB cI cZ h ha0 ((f_X5_keep what S))) := by
  obtain ⟨s_0, s_1, s_2, s_3⟩ := S
  refine CtV.of (cc := cX5_keep) (maxL := 2) (ret := none) (by decide +kernel) rfl (Nat.le_of_ble_eq_true rfl) ?_
  intro p e s m below meth c A ls hx hb hr hml hown hts hlocks hE hP hK hD hA hS hl
  have hown : s.vm.findClass RX5 = some m.cls := hown
  have hl : lv_has ls 2 [(0, .ref h), (1, .int what)] := hl
  have hP : va_P D vwCl [(h, .inr (4, [.ref ha0, .int s_1, .int s_2, .int s_3])), (ha0, .inl (cI, 100, .inl s_0))] s.heap := hP
  have hD : va_D A [(h, .inr (4, [.ref ha0, .int s_1, .int s_2, .int s_3])), (ha0, .inl (cI, 100, .inl s_0))] := hD
  have hiX5 : ∀ w ∈ wsX50, w ∈ wsX5_keep := by decide +kernel
  have k11 := hts (.fieldLink RX5 11 "CodedGroups$SymbolLog" "row" "[I") (by decide +kernel)
  have k15 := hts (.fieldLink RX5 15 "CodedGroups$SymbolLog" "next" "I") (by decide +kernel)
  have k19 := hts (.fieldLink RX5 19 "CodedGroups$SymbolLog" "kept" "I") (by decide +kernel)
  have k22 := hts (.fieldLink RX5 22 "CodedGroups$SymbolLog" "received" "I") (by decide +kernel)
  have k25 := hts (.methodLink RX5 25 Lib.Math.min.name) (by decide +kernel)
  have kmc := hts (.code Lib.Math.min.name Lib.Math.min.code 2 (some .int)) (by decide +kernel)
  have kmi := hts (.initialized "java/lang/Math") (by decide +kernel)
  have kms := hts (.static Lib.Math.min.name) (by decide +kernel)
  refine lv_aload_n hx hb dX5_keep_0 rfl (lv_at hl 0 rfl) ?_
  refine va_get (D := D) (ci := 4) (v := .int s_1) (C := RX5) (T := TX5) (N := 4) hx hb hts hiX5 hown hK hP 0 rfl rfl 1 (by decide) k15 (fun _ h9 => h9) rfl dX5_keep_1 ?_
  refine lv_if_lt (tgt := 16) hx hb dX5_keep_4 (by decide) (fun c_1 => ?_) (fun c_1 => ?_)
  · have hf : f_X5_keep what (s_0, s_1, s_2, s_3) = (s_0, s_1, s_2, s_3) := by simp only [f_X5_keep, ↓if_pos c_1]
    exact kretv hx hb hr hlocks hS hP hK hD dX5_keep_16 (congrArg (fun u : LgS => wLg cB cI cZ h ha0 u) hf).symm
  · refine lv_aload_n hx hb dX5_keep_7 rfl (lv_at hl 0 rfl) ?_
    refine va_get (D := D) (ci := 4) (v := .int s_1) (C := RX5) (T := TX5) (N := 4) hx hb hts hiX5 hown hK hP 0 rfl rfl 1 (by decide) k15 (fun _ h9 => h9) rfl dX5_keep_8 ?_
    refine lv_bipush (v := 100) hx hb dX5_keep_11 (by decide) ?_
    refine lv_icmp_lt (tgt := 17) hx hb dX5_keep_13 (by decide) (fun c_2 => ?_) (fun c_2 => ?_)
    · refine lv_aload_n hx hb dX5_keep_17 rfl (lv_at hl 0 rfl) ?_
      refine va_get (D := D) (ci := 4) (v := .ref ha0) (C := RX5) (T := TX5) (N := 4) hx hb hts hiX5 hown hK hP 0 rfl rfl 0 (by decide) k11 (fun _ h9 => h9) rfl dX5_keep_18 ?_
      refine lv_aload_n hx hb dX5_keep_21 rfl (lv_at hl 0 rfl) ?_
      refine va_get (D := D) (ci := 4) (v := .int s_1) (C := RX5) (T := TX5) (N := 4) hx hb hts hiX5 hown hK hP 0 rfl rfl 1 (by decide) k15 (fun _ h9 => h9) rfl dX5_keep_22 ?_
      refine lv_iload_n hx hb dX5_keep_25 rfl (lv_at hl 1 rfl) ?_
      refine lv_iconst (v := (-1)) hx hb dX5_keep_26 (by decide) ?_
      refine lv_icmp_ne (tgt := 36) hx hb dX5_keep_27 (by decide) (fun c_3 => ?_) (fun c_3 => ?_)
      · refine lv_iload_n hx hb dX5_keep_36 rfl (lv_at hl 1 rfl) ?_
        have h_4 : vp_in s_1 100 := vp_in_iff.mpr (show 0 ≤ (s_1 : Int32).toInt ∧ (s_1 : Int32).toInt < ((100 : Nat) : Int) from by have e_0 := i_nlt c_1; have e_1 := i_lt c_2; have z0 : (0 : Int32).toInt = 0 := rfl; have z100 : (100 : Int32).toInt = 100 := rfl; omega)
        refine va_iast hx hb hK hP hD hS 1 1 rfl rfl h_4 dX5_keep_37 (fun H locs hP hD hS => ?_)
        have hP : va_P D vwCl [(h, .inr (4, [.ref ha0, .int s_1, .int s_2, .int s_3])), (ha0, .inl (cI, 100, .inl (upd s_0 (s_1).toNatClampNeg what)))] H := hP
        have hD : va_D A [(h, .inr (4, [.ref ha0, .int s_1, .int s_2, .int s_3])), (ha0, .inl (cI, 100, .inl (upd s_0 (s_1).toNatClampNeg what)))] := hD
        refine lv_aload_n hx hb dX5_keep_38 rfl (lv_at hl 0 rfl) ?_
        refine lv_aload_n hx hb dX5_keep_39 rfl (lv_at hl 0 rfl) ?_
        refine va_get (D := D) (ci := 4) (v := .int s_1) (C := RX5) (T := TX5) (N := 4) hx hb hts hiX5 hown hK hP 0 rfl rfl 1 (by decide) k15 (fun _ h9 => h9) rfl dX5_keep_40 ?_
        refine lv_iconst (v := 1) hx hb dX5_keep_43 (by decide) ?_
        refine lv_iadd hx hb dX5_keep_44 ?_
        refine lv_bipush (v := 100) hx hb dX5_keep_45 (by decide) ?_
        refine lv_irem hx hb dX5_keep_47 (by decide) ?_
        refine va_put (D := D) (ci := 4) (v := .int ((s_1 + 1) - (s_1 + 1) / 100 * 100)) (ty := .int) (C := RX5) (T := TX5) (N := 4) hx hb hts hiX5 tyX5 tyX5_ok nmX5 hown hK hP hD hS 0 rfl rfl 1 (by decide) k15 (fun _ h9 => h9) rfl (by decide +kernel) rfl rfl (Nat.le_of_ble_eq_true rfl) dX5_keep_48 (fun H locs hP hD hS => ?_)
        have hP : va_P D vwCl [(h, .inr (4, [.ref ha0, .int ((s_1 + 1) - (s_1 + 1) / 100 * 100), .int s_2, .int s_3])), (ha0, .inl (cI, 100, .inl (upd s_0 (s_1).toNatClampNeg what)))] H := hP
        have hD : va_D A [(h, .inr (4, [.ref ha0, .int ((s_1 + 1) - (s_1 + 1) / 100 * 100), .int s_2, .int s_3])), (ha0, .inl (cI, 100, .inl (upd s_0 (s_1).toNatClampNeg what)))] := hD
        refine lv_aload_n hx hb dX5_keep_51 rfl (lv_at hl 0 rfl) ?_
        refine lv_aload_n hx hb dX5_keep_52 rfl (lv_at hl 0 rfl) ?_
        refine va_get (D := D) (ci := 4) (v := .int s_2) (C := RX5) (T := TX5) (N := 4) hx hb hts hiX5 hown hK hP 0 rfl rfl 2 (by decide) k19 (fun _ h9 => h9) rfl dX5_keep_53 ?_
        refine lv_iconst (v := 1) hx hb dX5_keep_56 (by decide) ?_
        refine lv_iadd hx hb dX5_keep_57 ?_
        refine lv_bipush (v := 100) hx hb dX5_keep_58 (by decide) ?_
        refine va_mmin hx hb (hml.trans hl.1.symm) hown k25 kms kmi kmc (Nat.le_of_ble_eq_true rfl) (Nat.le_of_ble_eq_true rfl) (Nat.zero_le _) (Nat.zero_le _) dX5_keep_60 ?_
        refine va_put (D := D) (ci := 4) (v := .int (if 100 < (s_2 + 1) then 100 else (s_2 + 1))) (ty := .int) (C := RX5) (T := TX5) (N := 4) hx hb hts hiX5 tyX5 tyX5_ok nmX5 hown hK hP hD hS 0 rfl rfl 2 (by decide) k19 (fun _ h9 => h9) rfl (by decide +kernel) rfl rfl (Nat.le_of_ble_eq_true rfl) dX5_keep_63 (fun H locs hP hD hS => ?_)
        have hP : va_P D vwCl [(h, .inr (4, [.ref ha0, .int ((s_1 + 1) - (s_1 + 1) / 100 * 100), .int (if 100 < (s_2 + 1) then 100 else (s_2 + 1)), .int s_3])), (ha0, .inl (cI, 100, .inl (upd s_0 (s_1).toNatClampNeg what)))] H := hP
        have hD : va_D A [(h, .inr (4, [.ref ha0, .int ((s_1 + 1) - (s_1 + 1) / 100 * 100), .int (if 100 < (s_2 + 1) then 100 else (s_2 + 1)), .int s_3])), (ha0, .inl (cI, 100, .inl (upd s_0 (s_1).toNatClampNeg what)))] := hD
        refine lv_aload_n hx hb dX5_keep_66 rfl (lv_at hl 0 rfl) ?_
        refine lv_dup hx hb dX5_keep_67 rfl ?_
        refine va_get (D := D) (ci := 4) (v := .int s_3) (C := RX5) (T := TX5) (N := 4) hx hb hts hiX5 hown hK hP 0 rfl rfl 3 (by decide) k22 (fun _ h9 => h9) rfl dX5_keep_68 ?_
        refine lv_iconst (v := 1) hx hb dX5_keep_71 (by decide) ?_
        refine lv_iadd hx hb dX5_keep_72 ?_
        refine va_put (D := D) (ci := 4) (v := .int (s_3 + 1)) (ty := .int) (C := RX5) (T := TX5) (N := 4) hx hb hts hiX5 tyX5 tyX5_ok nmX5 hown hK hP hD hS 0 rfl rfl 3 (by decide) k22 (fun _ h9 => h9) rfl (by decide +kernel) rfl rfl (Nat.le_of_ble_eq_true rfl) dX5_keep_73 (fun H locs hP hD hS => ?_)
        have hP : va_P D vwCl [(h, .inr (4, [.ref ha0, .int ((s_1 + 1) - (s_1 + 1) / 100 * 100), .int (if 100 < (s_2 + 1) then 100 else (s_2 + 1)), .int (s_3 + 1)])), (ha0, .inl (cI, 100, .inl (upd s_0 (s_1).toNatClampNeg what)))] H := hP
        have hD : va_D A [(h, .inr (4, [.ref ha0, .int ((s_1 + 1) - (s_1 + 1) / 100 * 100), .int (if 100 < (s_2 + 1) then 100 else (s_2 + 1)), .int (s_3 + 1)])), (ha0, .inl (cI, 100, .inl (upd s_0 (s_1).toNatClampNeg what)))] := hD
        have hf : f_X5_keep what (s_0, s_1, s_2, s_3) = ((upd s_0 (s_1).toNatClampNeg what), ((s_1 + 1) - (s_1 + 1) / 100 * 100), (if 100 < (s_2 + 1) then 100 else (s_2 + 1)), (s_3 + 1)) := by simp only [f_X5_keep, ↓if_neg c_1, ↓if_pos c_2, ↓if_neg c_3]
        exact kretv hx hb hr hlocks hS hP hK hD dX5_keep_76 (congrArg (fun u : LgS => wLg cB cI cZ h ha0 u) hf).symm
      · refine lv_sipush (v := 512) hx hb dX5_keep_30 (by decide) ?_
        refine lv_goto (tgt := 37) hx hb dX5_keep_33 (by decide) ?_
        have h_5 : vp_in s_1 100 := vp_in_iff.mpr (show 0 ≤ (s_1 : Int32).toInt ∧ (s_1 : Int32).toInt < ((100 : Nat) : Int) from by have e_0 := i_nlt c_1; have e_1 := i_lt c_2; have e_2 := congrArg Int32.toInt c_3; have zm1 : ((-1) : Int32).toInt = -1 := rfl; have z0 : (0 : Int32).toInt = 0 := rfl; have z100 : (100 : Int32).toInt = 100 := rfl; omega)
        refine va_iast hx hb hK hP hD hS 1 1 rfl rfl h_5 dX5_keep_37 (fun H locs hP hD hS => ?_)
        have hP : va_P D vwCl [(h, .inr (4, [.ref ha0, .int s_1, .int s_2, .int s_3])), (ha0, .inl (cI, 100, .inl (upd s_0 (s_1).toNatClampNeg 512)))] H := hP
        have hD : va_D A [(h, .inr (4, [.ref ha0, .int s_1, .int s_2, .int s_3])), (ha0, .inl (cI, 100, .inl (upd s_0 (s_1).toNatClampNeg 512)))] := hD
        refine lv_aload_n hx hb dX5_keep_38 rfl (lv_at hl 0 rfl) ?_
        refine lv_aload_n hx hb dX5_keep_39 rfl (lv_at hl 0 rfl) ?_
        refine va_get (D := D) (ci := 4) (v := .int s_1) (C := RX5) (T := TX5) (N := 4) hx hb hts hiX5 hown hK hP 0 rfl rfl 1 (by decide) k15 (fun _ h9 => h9) rfl dX5_keep_40 ?_
        refine lv_iconst (v := 1) hx hb dX5_keep_43 (by decide) ?_
        refine lv_iadd hx hb dX5_keep_44 ?_
        refine lv_bipush (v := 100) hx hb dX5_keep_45 (by decide) ?_
        refine lv_irem hx hb dX5_keep_47 (by decide) ?_
        refine va_put (D := D) (ci := 4) (v := .int ((s_1 + 1) - (s_1 + 1) / 100 * 100)) (ty := .int) (C := RX5) (T := TX5) (N := 4) hx hb hts hiX5 tyX5 tyX5_ok nmX5 hown hK hP hD hS 0 rfl rfl 1 (by decide) k15 (fun _ h9 => h9) rfl (by decide +kernel) rfl rfl (Nat.le_of_ble_eq_true rfl) dX5_keep_48 (fun H locs hP hD hS => ?_)
        have hP : va_P D vwCl [(h, .inr (4, [.ref ha0, .int ((s_1 + 1) - (s_1 + 1) / 100 * 100), .int s_2, .int s_3])), (ha0, .inl (cI, 100, .inl (upd s_0 (s_1).toNatClampNeg 512)))] H := hP
        have hD : va_D A [(h, .inr (4, [.ref ha0, .int ((s_1 + 1) - (s_1 + 1) / 100 * 100), .int s_2, .int s_3])), (ha0, .inl (cI, 100, .inl (upd s_0 (s_1).toNatClampNeg 512)))] := hD
        refine lv_aload_n hx hb dX5_keep_51 rfl (lv_at hl 0 rfl) ?_
        refine lv_aload_n hx hb dX5_keep_52 rfl (lv_at hl 0 rfl) ?_
        refine va_get (D := D) (ci := 4) (v := .int s_2) (C := RX5) (T := TX5) (N := 4) hx hb hts hiX5 hown hK hP 0 rfl rfl 2 (by decide) k19 (fun _ h9 => h9) rfl dX5_keep_53 ?_
        refine lv_iconst (v := 1) hx hb dX5_keep_56 (by decide) ?_
        refine lv_iadd hx hb dX5_keep_57 ?_
        refine lv_bipush (v := 100) hx hb dX5_keep_58 (by decide) ?_
        refine va_mmin hx hb (hml.trans hl.1.symm) hown k25 kms kmi kmc (Nat.le_of_ble_eq_true rfl) (Nat.le_of_ble_eq_true rfl) (Nat.zero_le _) (Nat.zero_le _) dX5_keep_60 ?_
        refine va_put (D := D) (ci := 4) (v := .int (if 100 < (s_2 + 1) then 100 else (s_2 + 1))) (ty := .int) (C := RX5) (T := TX5) (N := 4) hx hb hts hiX5 tyX5 tyX5_ok nmX5 hown hK hP hD hS 0 rfl rfl 2 (by decide) k19 (fun _ h9 => h9) rfl (by decide +kernel) rfl rfl (Nat.le_of_ble_eq_true rfl) dX5_keep_63 (fun H locs hP hD hS => ?_)
        have hP : va_P D vwCl [(h, .inr (4, [.ref ha0, .int ((s_1 + 1) - (s_1 + 1) / 100 * 100), .int (if 100 < (s_2 + 1) then 100 else (s_2 + 1)), .int s_3])), (ha0, .inl (cI, 100, .inl (upd s_0 (s_1).toNatClampNeg 512)))] H := hP
        have hD : va_D A [(h, .inr (4, [.ref ha0, .int ((s_1 + 1) - (s_1 + 1) / 100 * 100), .int (if 100 < (s_2 + 1) then 100 else (s_2 + 1)), .int s_3])), (ha0, .inl (cI, 100, .inl (upd s_0 (s_1).toNatClampNeg 512)))] := hD
        refine lv_aload_n hx hb dX5_keep_66 rfl (lv_at hl 0 rfl) ?_
        refine lv_dup hx hb dX5_keep_67 rfl ?_
        refine va_get (D := D) (ci := 4) (v := .int s_3) (C := RX5) (T := TX5) (N := 4) hx hb hts hiX5 hown hK hP 0 rfl rfl 3 (by decide) k22 (fun _ h9 => h9) rfl dX5_keep_68 ?_
        refine lv_iconst (v := 1) hx hb dX5_keep_71 (by decide) ?_
        refine lv_iadd hx hb dX5_keep_72 ?_
        refine va_put (D := D) (ci := 4) (v := .int (s_3 + 1)) (ty := .int) (C := RX5) (T := TX5) (N := 4) hx hb hts hiX5 tyX5 tyX5_ok nmX5 hown hK hP hD hS 0 rfl rfl 3 (by decide) k22 (fun _ h9 => h9) rfl (by decide +kernel) rfl rfl (Nat.le_of_ble_eq_true rfl) dX5_keep_73 (fun H locs hP hD hS => ?_)
        have hP : va_P D vwCl [(h, .inr (4, [.ref ha0, .int ((s_1 + 1) - (s_1 + 1) / 100 * 100), .int (if 100 < (s_2 + 1) then 100 else (s_2 + 1)), .int (s_3 + 1)])), (ha0, .inl (cI, 100, .inl (upd s_0 (s_1).toNatClampNeg 512)))] H := hP
        have hD : va_D A [(h, .inr (4, [.ref ha0, .int ((s_1 + 1) - (s_1 + 1) / 100 * 100), .int (if 100 < (s_2 + 1) then 100 else (s_2 + 1)), .int (s_3 + 1)])), (ha0, .inl (cI, 100, .inl (upd s_0 (s_1).toNatClampNeg 512)))] := hD
        have hf : f_X5_keep what (s_0, s_1, s_2, s_3) = ((upd s_0 (s_1).toNatClampNeg 512), ((s_1 + 1) - (s_1 + 1) / 100 * 100), (if 100 < (s_2 + 1) then 100 else (s_2 + 1)), (s_3 + 1)) := by simp only [f_X5_keep, ↓if_neg c_1, ↓if_pos c_2, ↓if_pos c_3]
        exact kretv hx hb hr hlocks hS hP hK hD dX5_keep_76 (congrArg (fun u : LgS => wLg cB cI cZ h ha0 u) hf).symm
    · have hf : f_X5_keep what (s_0, s_1, s_2, s_3) = (s_0, s_1, s_2, s_3) := by simp only [f_X5_keep, ↓if_neg c_1, ↓if_neg c_2]
      exact kretv hx hb hr hlocks hS hP hK hD dX5_keep_16 (congrArg (fun u : LgS => wLg cB cI cZ h ha0 u) hf).symm

abbrev rmX5_latest : Room := { frames := 0, cells := 0, slots := 0, locals := 0 }
def f_X5_latest (k : Int32) (S : LgS) : Int32 := match S with | (s_0, s_1, s_2, s_3) => (if k < 0 then (-1) else (if k < s_2 then (letv (((s_1 - 1) - k)) (fun x_3 => (if (0 : Int32) ≤ x_3 then (if x_3 < 0 then (-1) else (if (100 : Int32) ≤ x_3 then (-1) else (s_0 (x_3).toNatClampNeg))) else (if (x_3 + 100) < 0 then (-1) else (if (100 : Int32) ≤ (x_3 + 100) then (-1) else (s_0 ((x_3 + 100)).toNatClampNeg)))))) else (-1)))
set_option maxHeartbeats 4000000 in
set_option maxRecDepth 100000 in
theorem c_X5_latest (l : Launch) (D : va_G) (cB cI cZ : ClassId) (h ha0 : Nat) (S : LgS) (k : Int32) : CtI l yX5_latest wsX5_latest rmX5_latest D (tyv cB cI cZ) [.ref h, .int k] (f_X5_latest k S) (wLg cB cI cZ h ha0 S) (wLg cB cI cZ h ha0 S) := by
  obtain ⟨s_0, s_1, s_2, s_3⟩ := S
  refine CtI.of (cc := cX5_latest) (maxL := 3) (ret := (some .int)) (by decide +kernel) rfl (Nat.le_of_ble_eq_true rfl) ?_
  intro p e s m below meth c A ls hx hb hr hml hown hts hlocks hE hP hK hD hA hS hl
  have hown : s.vm.findClass RX5 = some m.cls := hown
  have hl : lv_has ls 3 [(0, .ref h), (1, .int k)] := hl
  have hP : va_P D vwCl [(h, .inr (4, [.ref ha0, .int s_1, .int s_2, .int s_3])), (ha0, .inl (cI, 100, .inl s_0))] s.heap := hP
  have hD : va_D A [(h, .inr (4, [.ref ha0, .int s_1, .int s_2, .int s_3])), (ha0, .inl (cI, 100, .inl s_0))] := hD
  have hiX5 : ∀ w ∈ wsX50, w ∈ wsX5_latest := by decide +kernel
  have k11 := hts (.fieldLink RX5 11 "CodedGroups$SymbolLog" "row" "[I") (by decide +kernel)
  have k15 := hts (.fieldLink RX5 15 "CodedGroups$SymbolLog" "next" "I") (by decide +kernel)
  have k19 := hts (.fieldLink RX5 19 "CodedGroups$SymbolLog" "kept" "I") (by decide +kernel)
  refine lv_iload_n hx hb dX5_latest_0 rfl (lv_at hl 1 rfl) ?_
  refine lv_if_lt (tgt := 12) hx hb dX5_latest_1 (by decide) (fun c_1 => ?_) (fun c_1 => ?_)
  · refine lv_iconst (v := (-1)) hx hb dX5_latest_12 (by decide) ?_
    have hf : f_X5_latest k (s_0, s_1, s_2, s_3) = (-1) := by simp only [f_X5_latest, ↓if_pos c_1]
    exact kreti hx hb hr hlocks hS hP hK hD dX5_latest_13 hf.symm rfl
  · refine lv_iload_n hx hb dX5_latest_4 rfl (lv_at hl 1 rfl) ?_
    refine lv_aload_n hx hb dX5_latest_5 rfl (lv_at hl 0 rfl) ?_
    refine va_get (D := D) (ci := 4) (v := .int s_2) (C := RX5) (T := TX5) (N := 4) hx hb hts hiX5 hown hK hP 0 rfl rfl 2 (by decide) k19 (fun _ h9 => h9) rfl dX5_latest_6 ?_
    refine lv_icmp_lt (tgt := 14) hx hb dX5_latest_9 (by decide) (fun c_2 => ?_) (fun c_2 => ?_)
    · refine lv_aload_n hx hb dX5_latest_14 rfl (lv_at hl 0 rfl) ?_
      refine va_get (D := D) (ci := 4) (v := .int s_1) (C := RX5) (T := TX5) (N := 4) hx hb hts hiX5 hown hK hP 0 rfl rfl 1 (by decide) k15 (fun _ h9 => h9) rfl dX5_latest_15 ?_
      refine lv_iconst (v := 1) hx hb dX5_latest_18 (by decide) ?_
      refine lv_isub hx hb dX5_latest_19 ?_
      refine lv_iload_n hx hb dX5_latest_20 rfl (lv_at hl 1 rfl) ?_
      refine lv_isub hx hb dX5_latest_21 ?_
      refine lv_topi (fun x_3 ex_3 => ?_)
      refine lv_istore_n (lv' := [(2, .int x_3), (0, .ref h), (1, .int k)]) hx hb dX5_latest_22 rfl hl (by decide) rfl (fun ls hl => ?_)
      refine lv_iload_n hx hb dX5_latest_23 rfl (lv_at hl 0 rfl) ?_
      refine lv_if_ge (tgt := 30) hx hb dX5_latest_24 (by decide) (fun c_4 => ?_) (fun c_4 => ?_)
      · refine lv_iload_n hx hb dX5_latest_30 rfl (lv_at hl 0 rfl) ?_
        refine lv_if_lt (tgt := 49) hx hb dX5_latest_31 (by decide) (fun c_5 => ?_) (fun c_5 => ?_)
        · refine lv_iconst (v := (-1)) hx hb dX5_latest_49 (by decide) ?_
          have hf : f_X5_latest k (s_0, s_1, s_2, s_3) = (-1) := by simp only [f_X5_latest, ↓letv_eq ex_3, ↓if_neg c_1, ↓if_pos c_2, ↓if_pos c_4, ↓if_pos c_5]
          exact kreti hx hb hr hlocks hS hP hK hD dX5_latest_50 hf.symm rfl
        · refine lv_iload_n hx hb dX5_latest_34 rfl (lv_at hl 0 rfl) ?_
          refine lv_bipush (v := 100) hx hb dX5_latest_35 (by decide) ?_
          refine lv_icmp_ge (tgt := 49) hx hb dX5_latest_37 (by decide) (fun c_6 => ?_) (fun c_6 => ?_)
          · refine lv_iconst (v := (-1)) hx hb dX5_latest_49 (by decide) ?_
            have hf : f_X5_latest k (s_0, s_1, s_2, s_3) = (-1) := by simp only [f_X5_latest, ↓letv_eq ex_3, ↓if_neg c_1, ↓if_pos c_2, ↓if_pos c_4, ↓if_neg c_5, ↓if_pos c_6]
            exact kreti hx hb hr hlocks hS hP hK hD dX5_latest_50 hf.symm rfl
          · refine lv_aload_n hx hb dX5_latest_40 rfl (lv_at hl 1 rfl) ?_
            refine va_get (D := D) (ci := 4) (v := .ref ha0) (C := RX5) (T := TX5) (N := 4) hx hb hts hiX5 hown hK hP 0 rfl rfl 0 (by decide) k11 (fun _ h9 => h9) rfl dX5_latest_41 ?_
            refine lv_iload_n hx hb dX5_latest_44 rfl (lv_at hl 0 rfl) ?_
            have h_7 : vp_in x_3 100 := vp_in_iff.mpr (show 0 ≤ (x_3 : Int32).toInt ∧ (x_3 : Int32).toInt < ((100 : Nat) : Int) from by have e_0 := i_nlt c_1; have e_1 := i_lt c_2; have e_2 := i_le c_4; have e_3 := i_nlt c_5; have e_4 := i_nle c_6; have z0 : (0 : Int32).toInt = 0 := rfl; have z100 : (100 : Int32).toInt = 100 := rfl; omega)
            refine va_iald hx hb hK hP 1 1 rfl rfl h_7 dX5_latest_45 ?_
            refine lv_goto (tgt := 50) hx hb dX5_latest_46 (by decide) ?_
            have hf : f_X5_latest k (s_0, s_1, s_2, s_3) = (s_0 (x_3).toNatClampNeg) := by simp only [f_X5_latest, ↓letv_eq ex_3, ↓if_neg c_1, ↓if_pos c_2, ↓if_pos c_4, ↓if_neg c_5, ↓if_neg c_6]
            exact kreti hx hb hr hlocks hS hP hK hD dX5_latest_50 hf.symm rfl
      · refine lv_iinc (v := (x_3 + 100)) (lv' := [(2, .int (x_3 + 100)), (0, .ref h), (1, .int k)]) hx hb dX5_latest_27 hl (k := 0) rfl rfl (by decide) rfl (fun ls hl => ?_)
        refine lv_iload_n hx hb dX5_latest_30 rfl (lv_at hl 0 rfl) ?_
        refine lv_if_lt (tgt := 49) hx hb dX5_latest_31 (by decide) (fun c_8 => ?_) (fun c_8 => ?_)
        · refine lv_iconst (v := (-1)) hx hb dX5_latest_49 (by decide) ?_
          have hf : f_X5_latest k (s_0, s_1, s_2, s_3) = (-1) := by simp only [f_X5_latest, ↓letv_eq ex_3, ↓if_neg c_1, ↓if_pos c_2, ↓if_neg c_4, ↓if_pos c_8]
          exact kreti hx hb hr hlocks hS hP hK hD dX5_latest_50 hf.symm rfl
        · refine lv_iload_n hx hb dX5_latest_34 rfl (lv_at hl 0 rfl) ?_
          refine lv_bipush (v := 100) hx hb dX5_latest_35 (by decide) ?_
          refine lv_icmp_ge (tgt := 49) hx hb dX5_latest_37 (by decide) (fun c_9 => ?_) (fun c_9 => ?_)
          · refine lv_iconst (v := (-1)) hx hb dX5_latest_49 (by decide) ?_
            have hf : f_X5_latest k (s_0, s_1, s_2, s_3) = (-1) := by simp only [f_X5_latest, ↓letv_eq ex_3, ↓if_neg c_1, ↓if_pos c_2, ↓if_neg c_4, ↓if_neg c_8, ↓if_pos c_9]
            exact kreti hx hb hr hlocks hS hP hK hD dX5_latest_50 hf.symm rfl
          · refine lv_aload_n hx hb dX5_latest_40 rfl (lv_at hl 1 rfl) ?_
            refine va_get (D := D) (ci := 4) (v := .ref ha0) (C := RX5) (T := TX5) (N := 4) hx hb hts hiX5 hown hK hP 0 rfl rfl 0 (by decide) k11 (fun _ h9 => h9) rfl dX5_latest_41 ?_
            refine lv_iload_n hx hb dX5_latest_44 rfl (lv_at hl 0 rfl) ?_
            have h_10 : vp_in ((x_3 + 100)) 100 := vp_in_iff.mpr (show 0 ≤ ((x_3 + 100) : Int32).toInt ∧ ((x_3 + 100) : Int32).toInt < ((100 : Nat) : Int) from by have e_0 := i_nlt c_1; have e_1 := i_lt c_2; have e_2 := i_nle c_4; have e_3 := i_nlt c_8; have e_4 := i_nle c_9; have z0 : (0 : Int32).toInt = 0 := rfl; have z100 : (100 : Int32).toInt = 100 := rfl; omega)
            refine va_iald hx hb hK hP 1 1 rfl rfl h_10 dX5_latest_45 ?_
            refine lv_goto (tgt := 50) hx hb dX5_latest_46 (by decide) ?_
            have hf : f_X5_latest k (s_0, s_1, s_2, s_3) = (s_0 ((x_3 + 100)).toNatClampNeg) := by simp only [f_X5_latest, ↓letv_eq ex_3, ↓if_neg c_1, ↓if_pos c_2, ↓if_neg c_4, ↓if_neg c_8, ↓if_neg c_9]
            exact kreti hx hb hr hlocks hS hP hK hD dX5_latest_50 hf.symm rfl
    · refine lv_iconst (v := (-1)) hx hb dX5_latest_12 (by decide) ?_
      have hf : f_X5_latest k (s_0, s_1, s_2, s_3) = (-1) := by simp only [f_X5_latest, ↓if_neg c_1, ↓if_neg c_2]
      exact kreti hx hb hr hlocks hS hP hK hD dX5_latest_13 hf.symm rfl

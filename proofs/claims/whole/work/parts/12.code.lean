abbrev rmJ6_bitCount_0f7a4 : Room := { frames := 0, cells := 0, slots := 0, locals := 0 }
def f_J6_bitCount_0f7a4 (i : Int32) : Int32 := (letv ((i - (((i).toUInt32 >>> ((1 : Int32).toUInt32 &&& Int32.toUInt32 31)).toInt32 &&& 1431655765))) (fun x_1 => (letv (((x_1 &&& 858993459) + (((x_1).toUInt32 >>> ((2 : Int32).toUInt32 &&& Int32.toUInt32 31)).toInt32 &&& 858993459))) (fun x_2 => (letv (((x_2 + ((x_2).toUInt32 >>> ((4 : Int32).toUInt32 &&& Int32.toUInt32 31)).toInt32) &&& 252645135)) (fun x_3 => (letv ((x_3 + ((x_3).toUInt32 >>> ((8 : Int32).toUInt32 &&& Int32.toUInt32 31)).toInt32)) (fun x_4 => (letv ((x_4 + ((x_4).toUInt32 >>> ((16 : Int32).toUInt32 &&& Int32.toUInt32 31)).toInt32)) (fun x_5 => (x_5 &&& 63)))))))))))
set_option maxHeartbeats 4000000 in
set_option maxRecDepth 100000 in
theorem c_J6_bitCount_0f7a4 (l : Launch) (D : va_G) (cB cI cZ : ClassId) (i : Int32) : CtI l yJ6_bitCount_0f7a4 wsJ6_bitCount_0f7a4 rmJ6_bitCount_0f7a4 D (tyv cB cI cZ) [.int i] (f_J6_bitCount_0f7a4 i) ([]) ([]) := by
  refine CtI.of (cc := cJ6_bitCount_0f7a4) (maxL := 1) (ret := (some .int)) (by decide +kernel) rfl (Nat.le_of_ble_eq_true rfl) ?_
  intro p e s m below meth c A ls hx hb hr hml hown hts hlocks hE hP hK hD hA hS hl
  have hown : s.vm.findClass RJ6 = some m.cls := hown
  have hl : lv_has ls 1 [(0, .int i)] := hl
  have k265 := hts (.constant RJ6 265 (1431655765)) (by decide +kernel)
  have k266 := hts (.constant RJ6 266 (858993459)) (by decide +kernel)
  have k267 := hts (.constant RJ6 267 (252645135)) (by decide +kernel)
  refine lv_iload_n hx hb dJ6_bitCount_0f7a4_0 rfl (lv_at hl 0 rfl) ?_
  refine lv_iload_n hx hb dJ6_bitCount_0f7a4_1 rfl (lv_at hl 0 rfl) ?_
  refine lv_iconst (v := 1) hx hb dJ6_bitCount_0f7a4_2 (by decide) ?_
  refine lv_iushr (v := ((i).toUInt32 >>> ((1 : Int32).toUInt32 &&& Int32.toUInt32 31)).toInt32) hx hb dJ6_bitCount_0f7a4_3 rfl ?_
  refine lv_ldcw hx hb hown k265 dJ6_bitCount_0f7a4_4 ?_
  refine lv_iand hx hb dJ6_bitCount_0f7a4_7 ?_
  refine lv_isub hx hb dJ6_bitCount_0f7a4_8 ?_
  refine lv_topi (fun x_1 ex_1 => ?_)
  refine lv_istore_n (lv' := [(0, .int x_1)]) hx hb dJ6_bitCount_0f7a4_9 rfl hl (by decide) rfl (fun ls hl => ?_)
  refine lv_iload_n hx hb dJ6_bitCount_0f7a4_10 rfl (lv_at hl 0 rfl) ?_
  refine lv_ldcw hx hb hown k266 dJ6_bitCount_0f7a4_11 ?_
  refine lv_iand hx hb dJ6_bitCount_0f7a4_14 ?_
  refine lv_iload_n hx hb dJ6_bitCount_0f7a4_15 rfl (lv_at hl 0 rfl) ?_
  refine lv_iconst (v := 2) hx hb dJ6_bitCount_0f7a4_16 (by decide) ?_
  refine lv_iushr (v := ((x_1).toUInt32 >>> ((2 : Int32).toUInt32 &&& Int32.toUInt32 31)).toInt32) hx hb dJ6_bitCount_0f7a4_17 rfl ?_
  refine lv_ldcw hx hb hown k266 dJ6_bitCount_0f7a4_18 ?_
  refine lv_iand hx hb dJ6_bitCount_0f7a4_21 ?_
  refine lv_iadd hx hb dJ6_bitCount_0f7a4_22 ?_
  refine lv_topi (fun x_2 ex_2 => ?_)
  refine lv_istore_n (lv' := [(0, .int x_2)]) hx hb dJ6_bitCount_0f7a4_23 rfl hl (by decide) rfl (fun ls hl => ?_)
  refine lv_iload_n hx hb dJ6_bitCount_0f7a4_24 rfl (lv_at hl 0 rfl) ?_
  refine lv_iload_n hx hb dJ6_bitCount_0f7a4_25 rfl (lv_at hl 0 rfl) ?_
  refine lv_iconst (v := 4) hx hb dJ6_bitCount_0f7a4_26 (by decide) ?_
  refine lv_iushr (v := ((x_2).toUInt32 >>> ((4 : Int32).toUInt32 &&& Int32.toUInt32 31)).toInt32) hx hb dJ6_bitCount_0f7a4_27 rfl ?_
  refine lv_iadd hx hb dJ6_bitCount_0f7a4_28 ?_
  refine lv_ldcw hx hb hown k267 dJ6_bitCount_0f7a4_29 ?_
  refine lv_iand hx hb dJ6_bitCount_0f7a4_32 ?_
  refine lv_topi (fun x_3 ex_3 => ?_)
  refine lv_istore_n (lv' := [(0, .int x_3)]) hx hb dJ6_bitCount_0f7a4_33 rfl hl (by decide) rfl (fun ls hl => ?_)
  refine lv_iload_n hx hb dJ6_bitCount_0f7a4_34 rfl (lv_at hl 0 rfl) ?_
  refine lv_iload_n hx hb dJ6_bitCount_0f7a4_35 rfl (lv_at hl 0 rfl) ?_
  refine lv_bipush (v := 8) hx hb dJ6_bitCount_0f7a4_36 (by decide) ?_
  refine lv_iushr (v := ((x_3).toUInt32 >>> ((8 : Int32).toUInt32 &&& Int32.toUInt32 31)).toInt32) hx hb dJ6_bitCount_0f7a4_38 rfl ?_
  refine lv_iadd hx hb dJ6_bitCount_0f7a4_39 ?_
  refine lv_topi (fun x_4 ex_4 => ?_)
  refine lv_istore_n (lv' := [(0, .int x_4)]) hx hb dJ6_bitCount_0f7a4_40 rfl hl (by decide) rfl (fun ls hl => ?_)
  refine lv_iload_n hx hb dJ6_bitCount_0f7a4_41 rfl (lv_at hl 0 rfl) ?_
  refine lv_iload_n hx hb dJ6_bitCount_0f7a4_42 rfl (lv_at hl 0 rfl) ?_
  refine lv_bipush (v := 16) hx hb dJ6_bitCount_0f7a4_43 (by decide) ?_
  refine lv_iushr (v := ((x_4).toUInt32 >>> ((16 : Int32).toUInt32 &&& Int32.toUInt32 31)).toInt32) hx hb dJ6_bitCount_0f7a4_45 rfl ?_
  refine lv_iadd hx hb dJ6_bitCount_0f7a4_46 ?_
  refine lv_topi (fun x_5 ex_5 => ?_)
  refine lv_istore_n (lv' := [(0, .int x_5)]) hx hb dJ6_bitCount_0f7a4_47 rfl hl (by decide) rfl (fun ls hl => ?_)
  refine lv_iload_n hx hb dJ6_bitCount_0f7a4_48 rfl (lv_at hl 0 rfl) ?_
  refine lv_bipush (v := 63) hx hb dJ6_bitCount_0f7a4_49 (by decide) ?_
  refine lv_iand hx hb dJ6_bitCount_0f7a4_51 ?_
  have hf : f_J6_bitCount_0f7a4 i = (x_5 &&& 63) := by simp only [f_J6_bitCount_0f7a4, ↓letv_eq ex_1, ↓letv_eq ex_2, ↓letv_eq ex_3, ↓letv_eq ex_4, ↓letv_eq ex_5]
  exact kreti hx hb hr hlocks hS hP hK hD dJ6_bitCount_0f7a4_52 hf.symm rfl

abbrev rmX0_isSign : Room := { frames := 0, cells := 0, slots := 0, locals := 0 }
def f_X0_isSign (x : Int32) (y : Int32) : Int32 := (if x = 28 then 1 else (if y = 7 then (if x = 23 then 1 else (if x = 27 then 1 else (if x = 29 then 1 else (if x = 30 then 1 else 0)))) else 0))
set_option maxHeartbeats 4000000 in
set_option maxRecDepth 100000 in
theorem c_X0_isSign (l : Launch) (D : va_G) (cB cI cZ : ClassId) (x : Int32) (y : Int32) : CtI l yX0_isSign wsX0_isSign rmX0_isSign D (tyv cB cI cZ) [.int x, .int y] (f_X0_isSign x y) ([]) ([]) := by
  refine CtI.of (cc := cX0_isSign) (maxL := 2) (ret := (some .boolean)) (by decide +kernel) rfl (Nat.le_of_ble_eq_true rfl) ?_
  intro p e s m below meth c A ls hx hb hr hml hown hts hlocks hE hP hK hD hA hS hl
  have hown : s.vm.findClass RX0 = some m.cls := hown
  have hl : lv_has ls 2 [(0, .int x), (1, .int y)] := hl
  refine lv_iload_n hx hb dX0_isSign_0 rfl (lv_at hl 0 rfl) ?_
  refine lv_bipush (v := 28) hx hb dX0_isSign_1 (by decide) ?_
  refine lv_icmp_eq (tgt := 36) hx hb dX0_isSign_3 (by decide) (fun c_1 => ?_) (fun c_1 => ?_)
  · refine lv_iconst (v := 1) hx hb dX0_isSign_36 (by decide) ?_
    refine lv_goto (tgt := 41) hx hb dX0_isSign_37 (by decide) ?_
    have hf : f_X0_isSign x y = 1 := by simp only [f_X0_isSign, ↓if_pos c_1]
    exact kretz hx hb hr hlocks hS hP hK hD dX0_isSign_41 (by rfl) hf.symm rfl
  · refine lv_iload_n hx hb dX0_isSign_6 rfl (lv_at hl 1 rfl) ?_
    refine lv_bipush (v := 7) hx hb dX0_isSign_7 (by decide) ?_
    refine lv_icmp_ne (tgt := 40) hx hb dX0_isSign_9 (by decide) (fun c_2 => ?_) (fun c_2 => ?_)
    · refine lv_iconst (v := 0) hx hb dX0_isSign_40 (by decide) ?_
      have hf : f_X0_isSign x y = 0 := by simp only [f_X0_isSign, ↓if_neg c_1, ↓if_neg c_2]
      exact kretz hx hb hr hlocks hS hP hK hD dX0_isSign_41 (by rfl) hf.symm rfl
    · refine lv_iload_n hx hb dX0_isSign_12 rfl (lv_at hl 0 rfl) ?_
      refine lv_bipush (v := 23) hx hb dX0_isSign_13 (by decide) ?_
      refine lv_icmp_eq (tgt := 36) hx hb dX0_isSign_15 (by decide) (fun c_3 => ?_) (fun c_3 => ?_)
      · refine lv_iconst (v := 1) hx hb dX0_isSign_36 (by decide) ?_
        refine lv_goto (tgt := 41) hx hb dX0_isSign_37 (by decide) ?_
        have hf : f_X0_isSign x y = 1 := by simp only [f_X0_isSign, ↓if_neg c_1, ↓if_pos c_2, ↓if_pos c_3]
        exact kretz hx hb hr hlocks hS hP hK hD dX0_isSign_41 (by rfl) hf.symm rfl
      · refine lv_iload_n hx hb dX0_isSign_18 rfl (lv_at hl 0 rfl) ?_
        refine lv_bipush (v := 27) hx hb dX0_isSign_19 (by decide) ?_
        refine lv_icmp_eq (tgt := 36) hx hb dX0_isSign_21 (by decide) (fun c_4 => ?_) (fun c_4 => ?_)
        · refine lv_iconst (v := 1) hx hb dX0_isSign_36 (by decide) ?_
          refine lv_goto (tgt := 41) hx hb dX0_isSign_37 (by decide) ?_
          have hf : f_X0_isSign x y = 1 := by simp only [f_X0_isSign, ↓if_neg c_1, ↓if_pos c_2, ↓if_neg c_3, ↓if_pos c_4]
          exact kretz hx hb hr hlocks hS hP hK hD dX0_isSign_41 (by rfl) hf.symm rfl
        · refine lv_iload_n hx hb dX0_isSign_24 rfl (lv_at hl 0 rfl) ?_
          refine lv_bipush (v := 29) hx hb dX0_isSign_25 (by decide) ?_
          refine lv_icmp_eq (tgt := 36) hx hb dX0_isSign_27 (by decide) (fun c_5 => ?_) (fun c_5 => ?_)
          · refine lv_iconst (v := 1) hx hb dX0_isSign_36 (by decide) ?_
            refine lv_goto (tgt := 41) hx hb dX0_isSign_37 (by decide) ?_
            have hf : f_X0_isSign x y = 1 := by simp only [f_X0_isSign, ↓if_neg c_1, ↓if_pos c_2, ↓if_neg c_3, ↓if_neg c_4, ↓if_pos c_5]
            exact kretz hx hb hr hlocks hS hP hK hD dX0_isSign_41 (by rfl) hf.symm rfl
          · refine lv_iload_n hx hb dX0_isSign_30 rfl (lv_at hl 0 rfl) ?_
            refine lv_bipush (v := 30) hx hb dX0_isSign_31 (by decide) ?_
            refine lv_icmp_ne (tgt := 40) hx hb dX0_isSign_33 (by decide) (fun c_6 => ?_) (fun c_6 => ?_)
            · refine lv_iconst (v := 0) hx hb dX0_isSign_40 (by decide) ?_
              have hf : f_X0_isSign x y = 0 := by simp only [f_X0_isSign, ↓if_neg c_1, ↓if_pos c_2, ↓if_neg c_3, ↓if_neg c_4, ↓if_neg c_5, ↓if_neg c_6]
              exact kretz hx hb hr hlocks hS hP hK hD dX0_isSign_41 (by rfl) hf.symm rfl
            · refine lv_iconst (v := 1) hx hb dX0_isSign_36 (by decide) ?_
              refine lv_goto (tgt := 41) hx hb dX0_isSign_37 (by decide) ?_
              have hf : f_X0_isSign x y = 1 := by simp only [f_X0_isSign, ↓if_neg c_1, ↓if_pos c_2, ↓if_neg c_3, ↓if_neg c_4, ↓if_neg c_5, ↓if_pos c_6]
              exact kretz hx hb hr hlocks hS hP hK hD dX0_isSign_41 (by rfl) hf.symm rfl

abbrev rmX0_isSymbol : Room := { frames := 1, cells := 0, slots := 0, locals := 21 }
def f_X0_isSymbol (v : Int32) (sg : Int32) : Int32 := (if v < 0 then 0 else (if v ≤ 255 then (if sg = 0 then 1 else (if (f_X0_isSign ((v &&& 31)) ((v >>> ((5 : Int32) &&& 31)))) = 0 then 0 else 1)) else 0))
set_option maxHeartbeats 4000000 in
set_option maxRecDepth 100000 in
theorem c_X0_isSymbol (l : Launch) (D : va_G) (cB cI cZ : ClassId) (v : Int32) (sg : Int32) : CtI l yX0_isSymbol wsX0_isSymbol rmX0_isSymbol D (tyv cB cI cZ) [.int v, .int sg] (f_X0_isSymbol v sg) ([]) ([]) := by
  refine CtI.of (cc := cX0_isSymbol) (maxL := 2) (ret := (some .boolean)) (by decide +kernel) rfl (Nat.le_of_ble_eq_true rfl) ?_
  intro p e s m below meth c A ls hx hb hr hml hown hts hlocks hE hP hK hD hA hS hl
  have hown : s.vm.findClass RX0 = some m.cls := hown
  have hl : lv_has ls 2 [(0, .int v), (1, .int sg)] := hl
  refine lv_iload_n hx hb dX0_isSymbol_0 rfl (lv_at hl 0 rfl) ?_
  refine lv_if_lt (tgt := 11) hx hb dX0_isSymbol_1 (by decide) (fun c_1 => ?_) (fun c_1 => ?_)
  · refine lv_iconst (v := 0) hx hb dX0_isSymbol_11 (by decide) ?_
    have hf : f_X0_isSymbol v sg = 0 := by simp only [f_X0_isSymbol, ↓if_pos c_1]
    exact kretz hx hb hr hlocks hS hP hK hD dX0_isSymbol_12 (by rfl) hf.symm rfl
  · refine lv_iload_n hx hb dX0_isSymbol_4 rfl (lv_at hl 0 rfl) ?_
    refine lv_sipush (v := 255) hx hb dX0_isSymbol_5 (by decide) ?_
    refine lv_icmp_le (tgt := 13) hx hb dX0_isSymbol_8 (by decide) (fun c_2 => ?_) (fun c_2 => ?_)
    · refine lv_iload_n hx hb dX0_isSymbol_13 rfl (lv_at hl 1 rfl) ?_
      refine lv_if_eq (tgt := 30) hx hb dX0_isSymbol_14 (by decide) (fun c_3 => ?_) (fun c_3 => ?_)
      · refine lv_iconst (v := 1) hx hb dX0_isSymbol_30 (by decide) ?_
        refine lv_goto (tgt := 35) hx hb dX0_isSymbol_31 (by decide) ?_
        have hf : f_X0_isSymbol v sg = 1 := by simp only [f_X0_isSymbol, ↓if_neg c_1, ↓if_pos c_2, ↓if_pos c_3]
        exact kretz hx hb hr hlocks hS hP hK hD dX0_isSymbol_35 (by rfl) hf.symm rfl
      · refine lv_iload_n hx hb dX0_isSymbol_17 rfl (lv_at hl 0 rfl) ?_
        refine lv_bipush (v := 31) hx hb dX0_isSymbol_18 (by decide) ?_
        refine lv_iand hx hb dX0_isSymbol_20 ?_
        refine lv_iload_n hx hb dX0_isSymbol_21 rfl (lv_at hl 0 rfl) ?_
        refine lv_iconst (v := 5) hx hb dX0_isSymbol_22 (by decide) ?_
        refine lv_ishr hx hb dX0_isSymbol_23 ?_
        refine kcall0 (krunS (As := [.int (v &&& 31), .int (v >>> ((5 : Int32) &&& 31))]) (rest := []) ⟨hx, hb, hml, hown, hts⟩ (c_X0_isSign l D cB cI cZ ((v &&& 31)) ((v >>> ((5 : Int32) &&& 31)))) (va_cwS 2 hts gX0_isSymbol_X0_isSign rfl rfl rfl (by decide +kernel) ⟨Nat.le_of_ble_eq_true rfl, Nat.le_of_ble_eq_true rfl⟩) hE hK hP hD hS hA [] rfl (by decide) rfl hl.1 rfl (Nat.le_of_ble_eq_true rfl) dX0_isSymbol_24 ⟨Nat.zero_le _, Nat.zero_le _⟩) hP hS hA (fun H locs hP hS => ?_)
        refine lv_if_eq (tgt := 34) hx hb dX0_isSymbol_27 (by decide) (fun c_4 => ?_) (fun c_4 => ?_)
        · refine lv_iconst (v := 0) hx hb dX0_isSymbol_34 (by decide) ?_
          have hf : f_X0_isSymbol v sg = 0 := by simp only [f_X0_isSymbol, ↓if_neg c_1, ↓if_pos c_2, ↓if_neg c_3, ↓if_pos c_4]
          exact kretz hx hb hr hlocks hS hP hK hD dX0_isSymbol_35 (by rfl) hf.symm rfl
        · refine lv_iconst (v := 1) hx hb dX0_isSymbol_30 (by decide) ?_
          refine lv_goto (tgt := 35) hx hb dX0_isSymbol_31 (by decide) ?_
          have hf : f_X0_isSymbol v sg = 1 := by simp only [f_X0_isSymbol, ↓if_neg c_1, ↓if_pos c_2, ↓if_neg c_3, ↓if_neg c_4]
          exact kretz hx hb hr hlocks hS hP hK hD dX0_isSymbol_35 (by rfl) hf.symm rfl
    · refine lv_iconst (v := 0) hx hb dX0_isSymbol_11 (by decide) ?_
      have hf : f_X0_isSymbol v sg = 0 := by simp only [f_X0_isSymbol, ↓if_neg c_1, ↓if_neg c_2]
      exact kretz hx hb hr hlocks hS hP hK hD dX0_isSymbol_12 (by rfl) hf.symm rfl

abbrev rmX0_sixOf : Room := { frames := 0, cells := 0, slots := 0, locals := 0 }
def f_X0_sixOf (x : Int32) (sg : Int32) (ln : Int32) : Int32 := (if x < 0 then (-1) else (if x ≤ 31 then (if sg = 0 then (if (0 : Int32) ≤ ln then (k_SP.getD (x).toNatClampNeg 0) else (k_SM.getD (x).toNatClampNeg 0)) else (if x = 28 then (if (0 : Int32) ≤ ln then 48 else 15) else (if (0 : Int32) ≤ ln then (k_SP.getD (x).toNatClampNeg 0) else (k_SM.getD (x).toNatClampNeg 0)))) else (-1)))
set_option maxHeartbeats 4000000 in
set_option maxRecDepth 100000 in
theorem c_X0_sixOf (l : Launch) (D : va_G) (cB cI cZ : ClassId) (x : Int32) (sg : Int32) (ln : Int32) : CtI l yX0_sixOf wsX0_sixOf rmX0_sixOf D (tyv cB cI cZ) [.int x, .int sg, .int ln] (f_X0_sixOf x sg ln) ([]) ([]) := by
  refine CtI.of (cc := cX0_sixOf) (maxL := 3) (ret := (some .int)) (by decide +kernel) rfl (Nat.le_of_ble_eq_true rfl) ?_
  intro p e s m below meth c A ls hx hb hr hml hown hts hlocks hE hP hK hD hA hS hl
  have hown : s.vm.findClass RX0 = some m.cls := hown
  have hl : lv_has ls 3 [(0, .int x), (1, .int sg), (2, .int ln)] := hl
  have k27 := hts (.fieldLink RX0 27 "CodedGroups$Code" "SIX_MINUS" "[I") (by decide +kernel)
  have k31 := hts (.fieldLink RX0 31 "CodedGroups$Code" "SIX_PLUS" "[I") (by decide +kernel)
  refine lv_iload_n hx hb dX0_sixOf_0 rfl (lv_at hl 0 rfl) ?_
  refine lv_if_lt (tgt := 10) hx hb dX0_sixOf_1 (by decide) (fun c_1 => ?_) (fun c_1 => ?_)
  · refine lv_iconst (v := (-1)) hx hb dX0_sixOf_10 (by decide) ?_
    have hf : f_X0_sixOf x sg ln = (-1) := by simp only [f_X0_sixOf, ↓if_pos c_1]
    exact kreti hx hb hr hlocks hS hP hK hD dX0_sixOf_11 hf.symm rfl
  · refine lv_iload_n hx hb dX0_sixOf_4 rfl (lv_at hl 0 rfl) ?_
    refine lv_bipush (v := 31) hx hb dX0_sixOf_5 (by decide) ?_
    refine lv_icmp_le (tgt := 12) hx hb dX0_sixOf_7 (by decide) (fun c_2 => ?_) (fun c_2 => ?_)
    · refine lv_iload_n hx hb dX0_sixOf_12 rfl (lv_at hl 1 rfl) ?_
      refine lv_if_eq (tgt := 34) hx hb dX0_sixOf_13 (by decide) (fun c_3 => ?_) (fun c_3 => ?_)
      · refine lv_iload_n hx hb dX0_sixOf_34 rfl (lv_at hl 2 rfl) ?_
        refine lv_if_ge (tgt := 46) hx hb dX0_sixOf_35 (by decide) (fun c_4 => ?_) (fun c_4 => ?_)
        · obtain ⟨t_5, hZ_5, hT_5⟩ := hE.tab 1 rfl
          refine va_gets hx hb hZ_5 hS hown k31 (fun _ h9 => h9) dX0_sixOf_46 ?_
          refine lv_iload_n hx hb dX0_sixOf_49 rfl (lv_at hl 0 rfl) ?_
          have h_6 : vp_in x k_SP.length := vp_in_iff.mpr (show 0 ≤ (x : Int32).toInt ∧ (x : Int32).toInt < ((32 : Nat) : Int) from by have e_0 := i_nlt c_1; have e_1 := i_le c_2; have e_2 := congrArg Int32.toInt c_3; have e_3 := i_le c_4; have z0 : (0 : Int32).toInt = 0 := rfl; have z31 : (31 : Int32).toInt = 31 := rfl; omega)
          refine va_ti hx hb hT_5 hS h_6 rfl dX0_sixOf_50 ?_
          have hf : f_X0_sixOf x sg ln = (k_SP.getD (x).toNatClampNeg 0) := by simp only [f_X0_sixOf, ↓if_neg c_1, ↓if_pos c_2, ↓if_pos c_3, ↓if_pos c_4]
          exact kreti hx hb hr hlocks hS hP hK hD dX0_sixOf_51 hf.symm rfl
        · obtain ⟨t_7, hZ_7, hT_7⟩ := hE.tab 0 rfl
          refine va_gets hx hb hZ_7 hS hown k27 (fun _ h9 => h9) dX0_sixOf_38 ?_
          refine lv_iload_n hx hb dX0_sixOf_41 rfl (lv_at hl 0 rfl) ?_
          have h_8 : vp_in x k_SM.length := vp_in_iff.mpr (show 0 ≤ (x : Int32).toInt ∧ (x : Int32).toInt < ((32 : Nat) : Int) from by have e_0 := i_nlt c_1; have e_1 := i_le c_2; have e_2 := congrArg Int32.toInt c_3; have e_3 := i_nle c_4; have z0 : (0 : Int32).toInt = 0 := rfl; have z31 : (31 : Int32).toInt = 31 := rfl; omega)
          refine va_ti hx hb hT_7 hS h_8 rfl dX0_sixOf_42 ?_
          refine lv_goto (tgt := 51) hx hb dX0_sixOf_43 (by decide) ?_
          have hf : f_X0_sixOf x sg ln = (k_SM.getD (x).toNatClampNeg 0) := by simp only [f_X0_sixOf, ↓if_neg c_1, ↓if_pos c_2, ↓if_pos c_3, ↓if_neg c_4]
          exact kreti hx hb hr hlocks hS hP hK hD dX0_sixOf_51 hf.symm rfl
      · refine lv_iload_n hx hb dX0_sixOf_16 rfl (lv_at hl 0 rfl) ?_
        refine lv_bipush (v := 28) hx hb dX0_sixOf_17 (by decide) ?_
        refine lv_icmp_ne (tgt := 34) hx hb dX0_sixOf_19 (by decide) (fun c_9 => ?_) (fun c_9 => ?_)
        · refine lv_iload_n hx hb dX0_sixOf_34 rfl (lv_at hl 2 rfl) ?_
          refine lv_if_ge (tgt := 46) hx hb dX0_sixOf_35 (by decide) (fun c_10 => ?_) (fun c_10 => ?_)
          · obtain ⟨t_11, hZ_11, hT_11⟩ := hE.tab 1 rfl
            refine va_gets hx hb hZ_11 hS hown k31 (fun _ h9 => h9) dX0_sixOf_46 ?_
            refine lv_iload_n hx hb dX0_sixOf_49 rfl (lv_at hl 0 rfl) ?_
            have h_12 : vp_in x k_SP.length := vp_in_iff.mpr (show 0 ≤ (x : Int32).toInt ∧ (x : Int32).toInt < ((32 : Nat) : Int) from by have e_0 := i_nlt c_1; have e_1 := i_le c_2; have e_4 := i_le c_10; have z0 : (0 : Int32).toInt = 0 := rfl; have z31 : (31 : Int32).toInt = 31 := rfl; omega)
            refine va_ti hx hb hT_11 hS h_12 rfl dX0_sixOf_50 ?_
            have hf : f_X0_sixOf x sg ln = (k_SP.getD (x).toNatClampNeg 0) := by simp only [f_X0_sixOf, ↓if_neg c_1, ↓if_pos c_2, ↓if_neg c_3, ↓if_neg c_9, ↓if_pos c_10]
            exact kreti hx hb hr hlocks hS hP hK hD dX0_sixOf_51 hf.symm rfl
          · obtain ⟨t_13, hZ_13, hT_13⟩ := hE.tab 0 rfl
            refine va_gets hx hb hZ_13 hS hown k27 (fun _ h9 => h9) dX0_sixOf_38 ?_
            refine lv_iload_n hx hb dX0_sixOf_41 rfl (lv_at hl 0 rfl) ?_
            have h_14 : vp_in x k_SM.length := vp_in_iff.mpr (show 0 ≤ (x : Int32).toInt ∧ (x : Int32).toInt < ((32 : Nat) : Int) from by have e_0 := i_nlt c_1; have e_1 := i_le c_2; have e_4 := i_nle c_10; have z0 : (0 : Int32).toInt = 0 := rfl; have z31 : (31 : Int32).toInt = 31 := rfl; omega)
            refine va_ti hx hb hT_13 hS h_14 rfl dX0_sixOf_42 ?_
            refine lv_goto (tgt := 51) hx hb dX0_sixOf_43 (by decide) ?_
            have hf : f_X0_sixOf x sg ln = (k_SM.getD (x).toNatClampNeg 0) := by simp only [f_X0_sixOf, ↓if_neg c_1, ↓if_pos c_2, ↓if_neg c_3, ↓if_neg c_9, ↓if_neg c_10]
            exact kreti hx hb hr hlocks hS hP hK hD dX0_sixOf_51 hf.symm rfl
        · refine lv_iload_n hx hb dX0_sixOf_22 rfl (lv_at hl 2 rfl) ?_
          refine lv_if_ge (tgt := 31) hx hb dX0_sixOf_23 (by decide) (fun c_15 => ?_) (fun c_15 => ?_)
          · refine lv_bipush (v := 48) hx hb dX0_sixOf_31 (by decide) ?_
            have hf : f_X0_sixOf x sg ln = 48 := by simp only [f_X0_sixOf, ↓if_neg c_1, ↓if_pos c_2, ↓if_neg c_3, ↓if_pos c_9, ↓if_pos c_15]
            exact kreti hx hb hr hlocks hS hP hK hD dX0_sixOf_33 hf.symm rfl
          · refine lv_bipush (v := 15) hx hb dX0_sixOf_26 (by decide) ?_
            refine lv_goto (tgt := 33) hx hb dX0_sixOf_28 (by decide) ?_
            have hf : f_X0_sixOf x sg ln = 15 := by simp only [f_X0_sixOf, ↓if_neg c_1, ↓if_pos c_2, ↓if_neg c_3, ↓if_pos c_9, ↓if_neg c_15]
            exact kreti hx hb hr hlocks hS hP hK hD dX0_sixOf_33 hf.symm rfl
    · refine lv_iconst (v := (-1)) hx hb dX0_sixOf_10 (by decide) ?_
      have hf : f_X0_sixOf x sg ln = (-1) := by simp only [f_X0_sixOf, ↓if_neg c_1, ↓if_neg c_2]
      exact kreti hx hb hr hlocks hS hP hK hD dX0_sixOf_11 hf.symm rfl

abbrev rmX0_fourOf : Room := { frames := 0, cells := 0, slots := 0, locals := 0 }
def f_X0_fourOf (x : Int32) (y : Int32) (sg : Int32) (ln : Int32) : Int32 := (if y < 0 then (-1) else (if y ≤ 7 then (if sg = 0 then (if y = 7 then (if (0 : Int32) ≤ ln then (if ln ≤ 0 then (k_FP.getD (y).toNatClampNeg 0) else (if x = 11 then 8 else (if x = 13 then 8 else (if x = 14 then 8 else (k_FP.getD (y).toNatClampNeg 0))))) else (if x = 17 then 7 else (if x = 18 then 7 else (if x = 20 then 7 else (if ln ≤ 0 then (k_FM.getD (y).toNatClampNeg 0) else (if x = 11 then 8 else (if x = 13 then 8 else (if x = 14 then 8 else (k_FM.getD (y).toNatClampNeg 0))))))))) else (if (0 : Int32) ≤ ln then (k_FP.getD (y).toNatClampNeg 0) else (k_FM.getD (y).toNatClampNeg 0))) else (if (0 : Int32) ≤ ln then (k_GP.getD (y).toNatClampNeg 0) else (k_GM.getD (y).toNatClampNeg 0))) else (-1)))
set_option maxHeartbeats 4000000 in
set_option maxRecDepth 100000 in
theorem c_X0_fourOf (l : Launch) (D : va_G) (cB cI cZ : ClassId) (x : Int32) (y : Int32) (sg : Int32) (ln : Int32) : CtI l yX0_fourOf wsX0_fourOf rmX0_fourOf D (tyv cB cI cZ) [.int x, .int y, .int sg, .int ln] (f_X0_fourOf x y sg ln) ([]) ([]) := by
  refine CtI.of (cc := cX0_fourOf) (maxL := 4) (ret := (some .int)) (by decide +kernel) rfl (Nat.le_of_ble_eq_true rfl) ?_
  intro p e s m below meth c A ls hx hb hr hml hown hts hlocks hE hP hK hD hA hS hl
  have hown : s.vm.findClass RX0 = some m.cls := hown
  have hl : lv_has ls 4 [(0, .int x), (1, .int y), (2, .int sg), (3, .int ln)] := hl
  have k34 := hts (.fieldLink RX0 34 "CodedGroups$Code" "SIGN_FOUR_MINUS" "[I") (by decide +kernel)
  have k37 := hts (.fieldLink RX0 37 "CodedGroups$Code" "SIGN_FOUR_PLUS" "[I") (by decide +kernel)
  have k40 := hts (.fieldLink RX0 40 "CodedGroups$Code" "FOUR_MINUS" "[I") (by decide +kernel)
  have k43 := hts (.fieldLink RX0 43 "CodedGroups$Code" "FOUR_PLUS" "[I") (by decide +kernel)
  refine lv_iload_n hx hb dX0_fourOf_0 rfl (lv_at hl 1 rfl) ?_
  refine lv_if_lt (tgt := 10) hx hb dX0_fourOf_1 (by decide) (fun c_1 => ?_) (fun c_1 => ?_)
  · refine lv_iconst (v := (-1)) hx hb dX0_fourOf_10 (by decide) ?_
    have hf : f_X0_fourOf x y sg ln = (-1) := by simp only [f_X0_fourOf, ↓if_pos c_1]
    exact kreti hx hb hr hlocks hS hP hK hD dX0_fourOf_11 hf.symm rfl
  · refine lv_iload_n hx hb dX0_fourOf_4 rfl (lv_at hl 1 rfl) ?_
    refine lv_bipush (v := 7) hx hb dX0_fourOf_5 (by decide) ?_
    refine lv_icmp_le (tgt := 12) hx hb dX0_fourOf_7 (by decide) (fun c_2 => ?_) (fun c_2 => ?_)
    · refine lv_iload_n hx hb dX0_fourOf_12 rfl (lv_at hl 2 rfl) ?_
      refine lv_if_eq (tgt := 34) hx hb dX0_fourOf_13 (by decide) (fun c_3 => ?_) (fun c_3 => ?_)
      · refine lv_iload_n hx hb dX0_fourOf_34 rfl (lv_at hl 1 rfl) ?_
        refine lv_bipush (v := 7) hx hb dX0_fourOf_35 (by decide) ?_
        refine lv_icmp_ne (tgt := 65) hx hb dX0_fourOf_37 (by decide) (fun c_4 => ?_) (fun c_4 => ?_)
        · refine lv_iload_n hx hb dX0_fourOf_65 rfl (lv_at hl 1 rfl) ?_
          refine lv_bipush (v := 7) hx hb dX0_fourOf_66 (by decide) ?_
          refine lv_icmp_ne (tgt := 96) hx hb dX0_fourOf_68 (by decide) (fun c_5 => ?_) (fun c_5 => ?_)
          · refine lv_iload_n hx hb dX0_fourOf_96 rfl (lv_at hl 3 rfl) ?_
            refine lv_if_ge (tgt := 108) hx hb dX0_fourOf_97 (by decide) (fun c_6 => ?_) (fun c_6 => ?_)
            · obtain ⟨t_7, hZ_7, hT_7⟩ := hE.tab 3 rfl
              refine va_gets hx hb hZ_7 hS hown k43 (fun _ h9 => h9) dX0_fourOf_108 ?_
              refine lv_iload_n hx hb dX0_fourOf_111 rfl (lv_at hl 1 rfl) ?_
              have h_8 : vp_in y k_FP.length := vp_in_iff.mpr (show 0 ≤ (y : Int32).toInt ∧ (y : Int32).toInt < ((8 : Nat) : Int) from by have e_0 := i_nlt c_1; have e_1 := i_le c_2; have e_2 := congrArg Int32.toInt c_3; have e_4 := i_le c_6; have z0 : (0 : Int32).toInt = 0 := rfl; have z7 : (7 : Int32).toInt = 7 := rfl; omega)
              refine va_ti hx hb hT_7 hS h_8 rfl dX0_fourOf_112 ?_
              have hf : f_X0_fourOf x y sg ln = (k_FP.getD (y).toNatClampNeg 0) := by simp only [f_X0_fourOf, ↓if_neg c_1, ↓if_pos c_2, ↓if_pos c_3, ↓if_neg c_4, ↓if_pos c_6]
              exact kreti hx hb hr hlocks hS hP hK hD dX0_fourOf_113 hf.symm rfl
            · obtain ⟨t_9, hZ_9, hT_9⟩ := hE.tab 2 rfl
              refine va_gets hx hb hZ_9 hS hown k40 (fun _ h9 => h9) dX0_fourOf_100 ?_
              refine lv_iload_n hx hb dX0_fourOf_103 rfl (lv_at hl 1 rfl) ?_
              have h_10 : vp_in y k_FM.length := vp_in_iff.mpr (show 0 ≤ (y : Int32).toInt ∧ (y : Int32).toInt < ((8 : Nat) : Int) from by have e_0 := i_nlt c_1; have e_1 := i_le c_2; have e_2 := congrArg Int32.toInt c_3; have e_4 := i_nle c_6; have z0 : (0 : Int32).toInt = 0 := rfl; have z7 : (7 : Int32).toInt = 7 := rfl; omega)
              refine va_ti hx hb hT_9 hS h_10 rfl dX0_fourOf_104 ?_
              refine lv_goto (tgt := 113) hx hb dX0_fourOf_105 (by decide) ?_
              have hf : f_X0_fourOf x y sg ln = (k_FM.getD (y).toNatClampNeg 0) := by simp only [f_X0_fourOf, ↓if_neg c_1, ↓if_pos c_2, ↓if_pos c_3, ↓if_neg c_4, ↓if_neg c_6]
              exact kreti hx hb hr hlocks hS hP hK hD dX0_fourOf_113 hf.symm rfl
          · exact absurd c_5 c_4
        · refine lv_iload_n hx hb dX0_fourOf_40 rfl (lv_at hl 3 rfl) ?_
          refine lv_if_ge (tgt := 65) hx hb dX0_fourOf_41 (by decide) (fun c_11 => ?_) (fun c_11 => ?_)
          · refine lv_iload_n hx hb dX0_fourOf_65 rfl (lv_at hl 1 rfl) ?_
            refine lv_bipush (v := 7) hx hb dX0_fourOf_66 (by decide) ?_
            refine lv_icmp_ne (tgt := 96) hx hb dX0_fourOf_68 (by decide) (fun c_12 => ?_) (fun c_12 => ?_)
            · exact absurd c_4 c_12
            · refine lv_iload_n hx hb dX0_fourOf_71 rfl (lv_at hl 3 rfl) ?_
              refine lv_if_le (tgt := 96) hx hb dX0_fourOf_72 (by decide) (fun c_13 => ?_) (fun c_13 => ?_)
              · refine lv_iload_n hx hb dX0_fourOf_96 rfl (lv_at hl 3 rfl) ?_
                refine lv_if_ge (tgt := 108) hx hb dX0_fourOf_97 (by decide) (fun c_14 => ?_) (fun c_14 => ?_)
                · obtain ⟨t_15, hZ_15, hT_15⟩ := hE.tab 3 rfl
                  refine va_gets hx hb hZ_15 hS hown k43 (fun _ h9 => h9) dX0_fourOf_108 ?_
                  refine lv_iload_n hx hb dX0_fourOf_111 rfl (lv_at hl 1 rfl) ?_
                  have h_16 : vp_in y k_FP.length := vp_in_iff.mpr (show 0 ≤ (y : Int32).toInt ∧ (y : Int32).toInt < ((8 : Nat) : Int) from by have e_0 := i_nlt c_1; have e_1 := i_le c_2; have e_2 := congrArg Int32.toInt c_3; have e_3 := congrArg Int32.toInt c_4; have e_4 := i_le c_11; have e_5 := i_le c_13; have z0 : (0 : Int32).toInt = 0 := rfl; have z7 : (7 : Int32).toInt = 7 := rfl; omega)
                  refine va_ti hx hb hT_15 hS h_16 rfl dX0_fourOf_112 ?_
                  have hf : f_X0_fourOf x y sg ln = (k_FP.getD (y).toNatClampNeg 0) := by simp only [f_X0_fourOf, ↓if_neg c_1, ↓if_pos c_2, ↓if_pos c_3, ↓if_pos c_4, ↓if_pos c_11, ↓if_pos c_13]
                  exact kreti hx hb hr hlocks hS hP hK hD dX0_fourOf_113 hf.symm rfl
                · exact absurd c_11 c_14
              · refine lv_iload_n hx hb dX0_fourOf_75 rfl (lv_at hl 0 rfl) ?_
                refine lv_bipush (v := 11) hx hb dX0_fourOf_76 (by decide) ?_
                refine lv_icmp_eq (tgt := 93) hx hb dX0_fourOf_78 (by decide) (fun c_17 => ?_) (fun c_17 => ?_)
                · refine lv_bipush (v := 8) hx hb dX0_fourOf_93 (by decide) ?_
                  have hf : f_X0_fourOf x y sg ln = 8 := by simp only [f_X0_fourOf, ↓if_neg c_1, ↓if_pos c_2, ↓if_pos c_3, ↓if_pos c_4, ↓if_pos c_11, ↓if_neg c_13, ↓if_pos c_17]
                  exact kreti hx hb hr hlocks hS hP hK hD dX0_fourOf_95 hf.symm rfl
                · refine lv_iload_n hx hb dX0_fourOf_81 rfl (lv_at hl 0 rfl) ?_
                  refine lv_bipush (v := 13) hx hb dX0_fourOf_82 (by decide) ?_
                  refine lv_icmp_eq (tgt := 93) hx hb dX0_fourOf_84 (by decide) (fun c_18 => ?_) (fun c_18 => ?_)
                  · refine lv_bipush (v := 8) hx hb dX0_fourOf_93 (by decide) ?_
                    have hf : f_X0_fourOf x y sg ln = 8 := by simp only [f_X0_fourOf, ↓if_neg c_1, ↓if_pos c_2, ↓if_pos c_3, ↓if_pos c_4, ↓if_pos c_11, ↓if_neg c_13, ↓if_neg c_17, ↓if_pos c_18]
                    exact kreti hx hb hr hlocks hS hP hK hD dX0_fourOf_95 hf.symm rfl
                  · refine lv_iload_n hx hb dX0_fourOf_87 rfl (lv_at hl 0 rfl) ?_
                    refine lv_bipush (v := 14) hx hb dX0_fourOf_88 (by decide) ?_
                    refine lv_icmp_ne (tgt := 96) hx hb dX0_fourOf_90 (by decide) (fun c_19 => ?_) (fun c_19 => ?_)
                    · refine lv_iload_n hx hb dX0_fourOf_96 rfl (lv_at hl 3 rfl) ?_
                      refine lv_if_ge (tgt := 108) hx hb dX0_fourOf_97 (by decide) (fun c_20 => ?_) (fun c_20 => ?_)
                      · obtain ⟨t_21, hZ_21, hT_21⟩ := hE.tab 3 rfl
                        refine va_gets hx hb hZ_21 hS hown k43 (fun _ h9 => h9) dX0_fourOf_108 ?_
                        refine lv_iload_n hx hb dX0_fourOf_111 rfl (lv_at hl 1 rfl) ?_
                        have h_22 : vp_in y k_FP.length := vp_in_iff.mpr (show 0 ≤ (y : Int32).toInt ∧ (y : Int32).toInt < ((8 : Nat) : Int) from by have e_0 := i_nlt c_1; have e_1 := i_le c_2; have e_2 := congrArg Int32.toInt c_3; have e_3 := congrArg Int32.toInt c_4; have e_4 := i_le c_11; have e_5 := i_nle c_13; have z0 : (0 : Int32).toInt = 0 := rfl; have z7 : (7 : Int32).toInt = 7 := rfl; omega)
                        refine va_ti hx hb hT_21 hS h_22 rfl dX0_fourOf_112 ?_
                        have hf : f_X0_fourOf x y sg ln = (k_FP.getD (y).toNatClampNeg 0) := by simp only [f_X0_fourOf, ↓if_neg c_1, ↓if_pos c_2, ↓if_pos c_3, ↓if_pos c_4, ↓if_pos c_11, ↓if_neg c_13, ↓if_neg c_17, ↓if_neg c_18, ↓if_neg c_19]
                        exact kreti hx hb hr hlocks hS hP hK hD dX0_fourOf_113 hf.symm rfl
                      · exact absurd c_11 c_20
                    · refine lv_bipush (v := 8) hx hb dX0_fourOf_93 (by decide) ?_
                      have hf : f_X0_fourOf x y sg ln = 8 := by simp only [f_X0_fourOf, ↓if_neg c_1, ↓if_pos c_2, ↓if_pos c_3, ↓if_pos c_4, ↓if_pos c_11, ↓if_neg c_13, ↓if_neg c_17, ↓if_neg c_18, ↓if_pos c_19]
                      exact kreti hx hb hr hlocks hS hP hK hD dX0_fourOf_95 hf.symm rfl
          · refine lv_iload_n hx hb dX0_fourOf_44 rfl (lv_at hl 0 rfl) ?_
            refine lv_bipush (v := 17) hx hb dX0_fourOf_45 (by decide) ?_
            refine lv_icmp_eq (tgt := 62) hx hb dX0_fourOf_47 (by decide) (fun c_23 => ?_) (fun c_23 => ?_)
            · refine lv_bipush (v := 7) hx hb dX0_fourOf_62 (by decide) ?_
              have hf : f_X0_fourOf x y sg ln = 7 := by simp only [f_X0_fourOf, ↓if_neg c_1, ↓if_pos c_2, ↓if_pos c_3, ↓if_pos c_4, ↓if_neg c_11, ↓if_pos c_23]
              exact kreti hx hb hr hlocks hS hP hK hD dX0_fourOf_64 hf.symm rfl
            · refine lv_iload_n hx hb dX0_fourOf_50 rfl (lv_at hl 0 rfl) ?_
              refine lv_bipush (v := 18) hx hb dX0_fourOf_51 (by decide) ?_
              refine lv_icmp_eq (tgt := 62) hx hb dX0_fourOf_53 (by decide) (fun c_24 => ?_) (fun c_24 => ?_)
              · refine lv_bipush (v := 7) hx hb dX0_fourOf_62 (by decide) ?_
                have hf : f_X0_fourOf x y sg ln = 7 := by simp only [f_X0_fourOf, ↓if_neg c_1, ↓if_pos c_2, ↓if_pos c_3, ↓if_pos c_4, ↓if_neg c_11, ↓if_neg c_23, ↓if_pos c_24]
                exact kreti hx hb hr hlocks hS hP hK hD dX0_fourOf_64 hf.symm rfl
              · refine lv_iload_n hx hb dX0_fourOf_56 rfl (lv_at hl 0 rfl) ?_
                refine lv_bipush (v := 20) hx hb dX0_fourOf_57 (by decide) ?_
                refine lv_icmp_ne (tgt := 65) hx hb dX0_fourOf_59 (by decide) (fun c_25 => ?_) (fun c_25 => ?_)
                · refine lv_iload_n hx hb dX0_fourOf_65 rfl (lv_at hl 1 rfl) ?_
                  refine lv_bipush (v := 7) hx hb dX0_fourOf_66 (by decide) ?_
                  refine lv_icmp_ne (tgt := 96) hx hb dX0_fourOf_68 (by decide) (fun c_26 => ?_) (fun c_26 => ?_)
                  · exact absurd c_4 c_26
                  · refine lv_iload_n hx hb dX0_fourOf_71 rfl (lv_at hl 3 rfl) ?_
                    refine lv_if_le (tgt := 96) hx hb dX0_fourOf_72 (by decide) (fun c_27 => ?_) (fun c_27 => ?_)
                    · refine lv_iload_n hx hb dX0_fourOf_96 rfl (lv_at hl 3 rfl) ?_
                      refine lv_if_ge (tgt := 108) hx hb dX0_fourOf_97 (by decide) (fun c_28 => ?_) (fun c_28 => ?_)
                      · exact absurd c_28 c_11
                      · obtain ⟨t_29, hZ_29, hT_29⟩ := hE.tab 2 rfl
                        refine va_gets hx hb hZ_29 hS hown k40 (fun _ h9 => h9) dX0_fourOf_100 ?_
                        refine lv_iload_n hx hb dX0_fourOf_103 rfl (lv_at hl 1 rfl) ?_
                        have h_30 : vp_in y k_FM.length := vp_in_iff.mpr (show 0 ≤ (y : Int32).toInt ∧ (y : Int32).toInt < ((8 : Nat) : Int) from by have e_0 := i_nlt c_1; have e_1 := i_le c_2; have e_2 := congrArg Int32.toInt c_3; have e_3 := congrArg Int32.toInt c_4; have e_4 := i_nle c_11; have e_8 := i_le c_27; have z0 : (0 : Int32).toInt = 0 := rfl; have z7 : (7 : Int32).toInt = 7 := rfl; omega)
                        refine va_ti hx hb hT_29 hS h_30 rfl dX0_fourOf_104 ?_
                        refine lv_goto (tgt := 113) hx hb dX0_fourOf_105 (by decide) ?_
                        have hf : f_X0_fourOf x y sg ln = (k_FM.getD (y).toNatClampNeg 0) := by simp only [f_X0_fourOf, ↓if_neg c_1, ↓if_pos c_2, ↓if_pos c_3, ↓if_pos c_4, ↓if_neg c_11, ↓if_neg c_23, ↓if_neg c_24, ↓if_neg c_25, ↓if_pos c_27]
                        exact kreti hx hb hr hlocks hS hP hK hD dX0_fourOf_113 hf.symm rfl
                    · refine lv_iload_n hx hb dX0_fourOf_75 rfl (lv_at hl 0 rfl) ?_
                      refine lv_bipush (v := 11) hx hb dX0_fourOf_76 (by decide) ?_
                      refine lv_icmp_eq (tgt := 93) hx hb dX0_fourOf_78 (by decide) (fun c_31 => ?_) (fun c_31 => ?_)
                      · refine lv_bipush (v := 8) hx hb dX0_fourOf_93 (by decide) ?_
                        have hf : f_X0_fourOf x y sg ln = 8 := by simp only [f_X0_fourOf, ↓if_neg c_1, ↓if_pos c_2, ↓if_pos c_3, ↓if_pos c_4, ↓if_neg c_11, ↓if_neg c_23, ↓if_neg c_24, ↓if_neg c_25, ↓if_neg c_27, ↓if_pos c_31]
                        exact kreti hx hb hr hlocks hS hP hK hD dX0_fourOf_95 hf.symm rfl
                      · refine lv_iload_n hx hb dX0_fourOf_81 rfl (lv_at hl 0 rfl) ?_
                        refine lv_bipush (v := 13) hx hb dX0_fourOf_82 (by decide) ?_
                        refine lv_icmp_eq (tgt := 93) hx hb dX0_fourOf_84 (by decide) (fun c_32 => ?_) (fun c_32 => ?_)
                        · refine lv_bipush (v := 8) hx hb dX0_fourOf_93 (by decide) ?_
                          have hf : f_X0_fourOf x y sg ln = 8 := by simp only [f_X0_fourOf, ↓if_neg c_1, ↓if_pos c_2, ↓if_pos c_3, ↓if_pos c_4, ↓if_neg c_11, ↓if_neg c_23, ↓if_neg c_24, ↓if_neg c_25, ↓if_neg c_27, ↓if_neg c_31, ↓if_pos c_32]
                          exact kreti hx hb hr hlocks hS hP hK hD dX0_fourOf_95 hf.symm rfl
                        · refine lv_iload_n hx hb dX0_fourOf_87 rfl (lv_at hl 0 rfl) ?_
                          refine lv_bipush (v := 14) hx hb dX0_fourOf_88 (by decide) ?_
                          refine lv_icmp_ne (tgt := 96) hx hb dX0_fourOf_90 (by decide) (fun c_33 => ?_) (fun c_33 => ?_)
                          · refine lv_iload_n hx hb dX0_fourOf_96 rfl (lv_at hl 3 rfl) ?_
                            refine lv_if_ge (tgt := 108) hx hb dX0_fourOf_97 (by decide) (fun c_34 => ?_) (fun c_34 => ?_)
                            · exact absurd c_34 c_11
                            · obtain ⟨t_35, hZ_35, hT_35⟩ := hE.tab 2 rfl
                              refine va_gets hx hb hZ_35 hS hown k40 (fun _ h9 => h9) dX0_fourOf_100 ?_
                              refine lv_iload_n hx hb dX0_fourOf_103 rfl (lv_at hl 1 rfl) ?_
                              have h_36 : vp_in y k_FM.length := vp_in_iff.mpr (show 0 ≤ (y : Int32).toInt ∧ (y : Int32).toInt < ((8 : Nat) : Int) from by have e_0 := i_nlt c_1; have e_1 := i_le c_2; have e_2 := congrArg Int32.toInt c_3; have e_3 := congrArg Int32.toInt c_4; have e_4 := i_nle c_11; have e_8 := i_nle c_27; have z0 : (0 : Int32).toInt = 0 := rfl; have z7 : (7 : Int32).toInt = 7 := rfl; omega)
                              refine va_ti hx hb hT_35 hS h_36 rfl dX0_fourOf_104 ?_
                              refine lv_goto (tgt := 113) hx hb dX0_fourOf_105 (by decide) ?_
                              have hf : f_X0_fourOf x y sg ln = (k_FM.getD (y).toNatClampNeg 0) := by simp only [f_X0_fourOf, ↓if_neg c_1, ↓if_pos c_2, ↓if_pos c_3, ↓if_pos c_4, ↓if_neg c_11, ↓if_neg c_23, ↓if_neg c_24, ↓if_neg c_25, ↓if_neg c_27, ↓if_neg c_31, ↓if_neg c_32, ↓if_neg c_33]
                              exact kreti hx hb hr hlocks hS hP hK hD dX0_fourOf_113 hf.symm rfl
                          · refine lv_bipush (v := 8) hx hb dX0_fourOf_93 (by decide) ?_
                            have hf : f_X0_fourOf x y sg ln = 8 := by simp only [f_X0_fourOf, ↓if_neg c_1, ↓if_pos c_2, ↓if_pos c_3, ↓if_pos c_4, ↓if_neg c_11, ↓if_neg c_23, ↓if_neg c_24, ↓if_neg c_25, ↓if_neg c_27, ↓if_neg c_31, ↓if_neg c_32, ↓if_pos c_33]
                            exact kreti hx hb hr hlocks hS hP hK hD dX0_fourOf_95 hf.symm rfl
                · refine lv_bipush (v := 7) hx hb dX0_fourOf_62 (by decide) ?_
                  have hf : f_X0_fourOf x y sg ln = 7 := by simp only [f_X0_fourOf, ↓if_neg c_1, ↓if_pos c_2, ↓if_pos c_3, ↓if_pos c_4, ↓if_neg c_11, ↓if_neg c_23, ↓if_neg c_24, ↓if_pos c_25]
                  exact kreti hx hb hr hlocks hS hP hK hD dX0_fourOf_64 hf.symm rfl
      · refine lv_iload_n hx hb dX0_fourOf_16 rfl (lv_at hl 3 rfl) ?_
        refine lv_if_ge (tgt := 28) hx hb dX0_fourOf_17 (by decide) (fun c_37 => ?_) (fun c_37 => ?_)
        · obtain ⟨t_38, hZ_38, hT_38⟩ := hE.tab 5 rfl
          refine va_gets hx hb hZ_38 hS hown k37 (fun _ h9 => h9) dX0_fourOf_28 ?_
          refine lv_iload_n hx hb dX0_fourOf_31 rfl (lv_at hl 1 rfl) ?_
          have h_39 : vp_in y k_GP.length := vp_in_iff.mpr (show 0 ≤ (y : Int32).toInt ∧ (y : Int32).toInt < ((8 : Nat) : Int) from by have e_0 := i_nlt c_1; have e_1 := i_le c_2; have e_3 := i_le c_37; have z0 : (0 : Int32).toInt = 0 := rfl; have z7 : (7 : Int32).toInt = 7 := rfl; omega)
          refine va_ti hx hb hT_38 hS h_39 rfl dX0_fourOf_32 ?_
          have hf : f_X0_fourOf x y sg ln = (k_GP.getD (y).toNatClampNeg 0) := by simp only [f_X0_fourOf, ↓if_neg c_1, ↓if_pos c_2, ↓if_neg c_3, ↓if_pos c_37]
          exact kreti hx hb hr hlocks hS hP hK hD dX0_fourOf_33 hf.symm rfl
        · obtain ⟨t_40, hZ_40, hT_40⟩ := hE.tab 4 rfl
          refine va_gets hx hb hZ_40 hS hown k34 (fun _ h9 => h9) dX0_fourOf_20 ?_
          refine lv_iload_n hx hb dX0_fourOf_23 rfl (lv_at hl 1 rfl) ?_
          have h_41 : vp_in y k_GM.length := vp_in_iff.mpr (show 0 ≤ (y : Int32).toInt ∧ (y : Int32).toInt < ((8 : Nat) : Int) from by have e_0 := i_nlt c_1; have e_1 := i_le c_2; have e_3 := i_nle c_37; have z0 : (0 : Int32).toInt = 0 := rfl; have z7 : (7 : Int32).toInt = 7 := rfl; omega)
          refine va_ti hx hb hT_40 hS h_41 rfl dX0_fourOf_24 ?_
          refine lv_goto (tgt := 33) hx hb dX0_fourOf_25 (by decide) ?_
          have hf : f_X0_fourOf x y sg ln = (k_GM.getD (y).toNatClampNeg 0) := by simp only [f_X0_fourOf, ↓if_neg c_1, ↓if_pos c_2, ↓if_neg c_3, ↓if_neg c_37]
          exact kreti hx hb hr hlocks hS hP hK hD dX0_fourOf_33 hf.symm rfl
    · refine lv_iconst (v := (-1)) hx hb dX0_fourOf_10 (by decide) ?_
      have hf : f_X0_fourOf x y sg ln = (-1) := by simp only [f_X0_fourOf, ↓if_neg c_1, ↓if_neg c_2]
      exact kreti hx hb hr hlocks hS hP hK hD dX0_fourOf_11 hf.symm rfl

abbrev rmX0_behindSix : Room := { frames := 1, cells := 0, slots := 0, locals := 20 }
def f_X0_behindSix (six : Int32) (ln : Int32) : Int32 := (letv ((f_J6_bitCount_0f7a4 six)) (fun x_1 => (if (3 : Int32) < x_1 then 1 else (if six = 7 then 1 else (if x_1 < 3 then (-1) else (if six = 56 then (-1) else ln))))))
set_option maxHeartbeats 4000000 in
set_option maxRecDepth 100000 in
theorem c_X0_behindSix (l : Launch) (D : va_G) (cB cI cZ : ClassId) (six : Int32) (ln : Int32) : CtI l yX0_behindSix wsX0_behindSix rmX0_behindSix D (tyv cB cI cZ) [.int six, .int ln] (f_X0_behindSix six ln) ([]) ([]) := by
  refine CtI.of (cc := cX0_behindSix) (maxL := 3) (ret := (some .int)) (by decide +kernel) rfl (Nat.le_of_ble_eq_true rfl) ?_
  intro p e s m below meth c A ls hx hb hr hml hown hts hlocks hE hP hK hD hA hS hl
  have hown : s.vm.findClass RX0 = some m.cls := hown
  have hl : lv_has ls 3 [(0, .int six), (1, .int ln)] := hl
  refine lv_iload_n hx hb dX0_behindSix_0 rfl (lv_at hl 0 rfl) ?_
  refine kcall0 (krunS (As := [.int six]) (rest := []) ⟨hx, hb, hml, hown, hts⟩ (c_J6_bitCount_0f7a4 l D cB cI cZ six) (va_cwS 1 hts gX0_behindSix_J6_bitCount_0f7a4 rfl rfl rfl (by decide +kernel) ⟨Nat.le_of_ble_eq_true rfl, Nat.le_of_ble_eq_true rfl⟩) hE hK hP hD hS hA [] rfl (by decide) rfl hl.1 rfl (Nat.le_of_ble_eq_true rfl) dX0_behindSix_1 ⟨Nat.zero_le _, Nat.zero_le _⟩) hP hS hA (fun H locs hP hS => ?_)
  refine lv_topi (fun x_1 ex_1 => ?_)
  refine lv_istore_n (lv' := [(2, .int x_1), (0, .int six), (1, .int ln)]) hx hb dX0_behindSix_4 rfl hl (by decide) rfl (fun ls hl => ?_)
  refine lv_iload_n hx hb dX0_behindSix_5 rfl (lv_at hl 0 rfl) ?_
  refine lv_iconst (v := 3) hx hb dX0_behindSix_6 (by decide) ?_
  refine lv_icmp_gt (tgt := 16) hx hb dX0_behindSix_7 (by decide) (fun c_2 => ?_) (fun c_2 => ?_)
  · refine lv_iconst (v := 1) hx hb dX0_behindSix_16 (by decide) ?_
    have hf : f_X0_behindSix six ln = 1 := by simp only [f_X0_behindSix, ↓letv_eq ex_1, ↓if_pos c_2]
    exact kreti hx hb hr hlocks hS hP hK hD dX0_behindSix_17 hf.symm rfl
  · refine lv_iload_n hx hb dX0_behindSix_10 rfl (lv_at hl 1 rfl) ?_
    refine lv_bipush (v := 7) hx hb dX0_behindSix_11 (by decide) ?_
    refine lv_icmp_ne (tgt := 18) hx hb dX0_behindSix_13 (by decide) (fun c_3 => ?_) (fun c_3 => ?_)
    · refine lv_iload_n hx hb dX0_behindSix_18 rfl (lv_at hl 0 rfl) ?_
      refine lv_iconst (v := 3) hx hb dX0_behindSix_19 (by decide) ?_
      refine lv_icmp_lt (tgt := 29) hx hb dX0_behindSix_20 (by decide) (fun c_4 => ?_) (fun c_4 => ?_)
      · refine lv_iconst (v := (-1)) hx hb dX0_behindSix_29 (by decide) ?_
        have hf : f_X0_behindSix six ln = (-1) := by simp only [f_X0_behindSix, ↓letv_eq ex_1, ↓if_neg c_2, ↓if_neg c_3, ↓if_pos c_4]
        exact kreti hx hb hr hlocks hS hP hK hD dX0_behindSix_30 hf.symm rfl
      · refine lv_iload_n hx hb dX0_behindSix_23 rfl (lv_at hl 1 rfl) ?_
        refine lv_bipush (v := 56) hx hb dX0_behindSix_24 (by decide) ?_
        refine lv_icmp_ne (tgt := 31) hx hb dX0_behindSix_26 (by decide) (fun c_5 => ?_) (fun c_5 => ?_)
        · refine lv_iload_n hx hb dX0_behindSix_31 rfl (lv_at hl 2 rfl) ?_
          have hf : f_X0_behindSix six ln = ln := by simp only [f_X0_behindSix, ↓letv_eq ex_1, ↓if_neg c_2, ↓if_neg c_3, ↓if_neg c_4, ↓if_neg c_5]
          exact kreti hx hb hr hlocks hS hP hK hD dX0_behindSix_32 hf.symm rfl
        · refine lv_iconst (v := (-1)) hx hb dX0_behindSix_29 (by decide) ?_
          have hf : f_X0_behindSix six ln = (-1) := by simp only [f_X0_behindSix, ↓letv_eq ex_1, ↓if_neg c_2, ↓if_neg c_3, ↓if_neg c_4, ↓if_pos c_5]
          exact kreti hx hb hr hlocks hS hP hK hD dX0_behindSix_30 hf.symm rfl
    · refine lv_iconst (v := 1) hx hb dX0_behindSix_16 (by decide) ?_
      have hf : f_X0_behindSix six ln = 1 := by simp only [f_X0_behindSix, ↓letv_eq ex_1, ↓if_neg c_2, ↓if_pos c_3]
      exact kreti hx hb hr hlocks hS hP hK hD dX0_behindSix_17 hf.symm rfl

abbrev rmX0_behindFour : Room := { frames := 1, cells := 0, slots := 0, locals := 20 }
def f_X0_behindFour (four : Int32) (ln : Int32) : Int32 := (letv ((f_J6_bitCount_0f7a4 four)) (fun x_1 => (if (2 : Int32) < x_1 then 1 else (if four = 3 then 1 else (if x_1 < 2 then (-1) else (if four = 12 then (-1) else ln))))))
set_option maxHeartbeats 4000000 in
set_option maxRecDepth 100000 in
theorem c_X0_behindFour (l : Launch) (D : va_G) (cB cI cZ : ClassId) (four : Int32) (ln : Int32) : CtI l yX0_behindFour wsX0_behindFour rmX0_behindFour D (tyv cB cI cZ) [.int four, .int ln] (f_X0_behindFour four ln) ([]) ([]) := by
  refine CtI.of (cc := cX0_behindFour) (maxL := 3) (ret := (some .int)) (by decide +kernel) rfl (Nat.le_of_ble_eq_true rfl) ?_
  intro p e s m below meth c A ls hx hb hr hml hown hts hlocks hE hP hK hD hA hS hl
  have hown : s.vm.findClass RX0 = some m.cls := hown
  have hl : lv_has ls 3 [(0, .int four), (1, .int ln)] := hl
  refine lv_iload_n hx hb dX0_behindFour_0 rfl (lv_at hl 0 rfl) ?_
  refine kcall0 (krunS (As := [.int four]) (rest := []) ⟨hx, hb, hml, hown, hts⟩ (c_J6_bitCount_0f7a4 l D cB cI cZ four) (va_cwS 1 hts gX0_behindFour_J6_bitCount_0f7a4 rfl rfl rfl (by decide +kernel) ⟨Nat.le_of_ble_eq_true rfl, Nat.le_of_ble_eq_true rfl⟩) hE hK hP hD hS hA [] rfl (by decide) rfl hl.1 rfl (Nat.le_of_ble_eq_true rfl) dX0_behindFour_1 ⟨Nat.zero_le _, Nat.zero_le _⟩) hP hS hA (fun H locs hP hS => ?_)
  refine lv_topi (fun x_1 ex_1 => ?_)
  refine lv_istore_n (lv' := [(2, .int x_1), (0, .int four), (1, .int ln)]) hx hb dX0_behindFour_4 rfl hl (by decide) rfl (fun ls hl => ?_)
  refine lv_iload_n hx hb dX0_behindFour_5 rfl (lv_at hl 0 rfl) ?_
  refine lv_iconst (v := 2) hx hb dX0_behindFour_6 (by decide) ?_
  refine lv_icmp_gt (tgt := 15) hx hb dX0_behindFour_7 (by decide) (fun c_2 => ?_) (fun c_2 => ?_)
  · refine lv_iconst (v := 1) hx hb dX0_behindFour_15 (by decide) ?_
    have hf : f_X0_behindFour four ln = 1 := by simp only [f_X0_behindFour, ↓letv_eq ex_1, ↓if_pos c_2]
    exact kreti hx hb hr hlocks hS hP hK hD dX0_behindFour_16 hf.symm rfl
  · refine lv_iload_n hx hb dX0_behindFour_10 rfl (lv_at hl 1 rfl) ?_
    refine lv_iconst (v := 3) hx hb dX0_behindFour_11 (by decide) ?_
    refine lv_icmp_ne (tgt := 17) hx hb dX0_behindFour_12 (by decide) (fun c_3 => ?_) (fun c_3 => ?_)
    · refine lv_iload_n hx hb dX0_behindFour_17 rfl (lv_at hl 0 rfl) ?_
      refine lv_iconst (v := 2) hx hb dX0_behindFour_18 (by decide) ?_
      refine lv_icmp_lt (tgt := 28) hx hb dX0_behindFour_19 (by decide) (fun c_4 => ?_) (fun c_4 => ?_)
      · refine lv_iconst (v := (-1)) hx hb dX0_behindFour_28 (by decide) ?_
        have hf : f_X0_behindFour four ln = (-1) := by simp only [f_X0_behindFour, ↓letv_eq ex_1, ↓if_neg c_2, ↓if_neg c_3, ↓if_pos c_4]
        exact kreti hx hb hr hlocks hS hP hK hD dX0_behindFour_29 hf.symm rfl
      · refine lv_iload_n hx hb dX0_behindFour_22 rfl (lv_at hl 1 rfl) ?_
        refine lv_bipush (v := 12) hx hb dX0_behindFour_23 (by decide) ?_
        refine lv_icmp_ne (tgt := 30) hx hb dX0_behindFour_25 (by decide) (fun c_5 => ?_) (fun c_5 => ?_)
        · refine lv_iload_n hx hb dX0_behindFour_30 rfl (lv_at hl 2 rfl) ?_
          have hf : f_X0_behindFour four ln = ln := by simp only [f_X0_behindFour, ↓letv_eq ex_1, ↓if_neg c_2, ↓if_neg c_3, ↓if_neg c_4, ↓if_neg c_5]
          exact kreti hx hb hr hlocks hS hP hK hD dX0_behindFour_31 hf.symm rfl
        · refine lv_iconst (v := (-1)) hx hb dX0_behindFour_28 (by decide) ?_
          have hf : f_X0_behindFour four ln = (-1) := by simp only [f_X0_behindFour, ↓letv_eq ex_1, ↓if_neg c_2, ↓if_neg c_3, ↓if_neg c_4, ↓if_pos c_5]
          exact kreti hx hb hr hlocks hS hP hK hD dX0_behindFour_29 hf.symm rfl
    · refine lv_iconst (v := 1) hx hb dX0_behindFour_15 (by decide) ?_
      have hf : f_X0_behindFour four ln = 1 := by simp only [f_X0_behindFour, ↓letv_eq ex_1, ↓if_neg c_2, ↓if_pos c_3]
      exact kreti hx hb hr hlocks hS hP hK hD dX0_behindFour_16 hf.symm rfl

abbrev rmX0_behindGroup : Room := { frames := 2, cells := 0, slots := 0, locals := 42 }
def f_X0_behindGroup (g : Int32) (ln : Int32) : Int32 := (f_X0_behindFour ((g &&& 15)) ((f_X0_behindSix ((g >>> ((4 : Int32) &&& 31))) ln)))
set_option maxHeartbeats 4000000 in
set_option maxRecDepth 100000 in
theorem c_X0_behindGroup (l : Launch) (D : va_G) (cB cI cZ : ClassId) (g : Int32) (ln : Int32) : CtI l yX0_behindGroup wsX0_behindGroup rmX0_behindGroup D (tyv cB cI cZ) [.int g, .int ln] (f_X0_behindGroup g ln) ([]) ([]) := by
  refine CtI.of (cc := cX0_behindGroup) (maxL := 2) (ret := (some .int)) (by decide +kernel) rfl (Nat.le_of_ble_eq_true rfl) ?_
  intro p e s m below meth c A ls hx hb hr hml hown hts hlocks hE hP hK hD hA hS hl
  have hown : s.vm.findClass RX0 = some m.cls := hown
  have hl : lv_has ls 2 [(0, .int g), (1, .int ln)] := hl
  refine lv_iload_n hx hb dX0_behindGroup_0 rfl (lv_at hl 0 rfl) ?_
  refine lv_bipush (v := 15) hx hb dX0_behindGroup_1 (by decide) ?_
  refine lv_iand hx hb dX0_behindGroup_3 ?_
  refine lv_iload_n hx hb dX0_behindGroup_4 rfl (lv_at hl 0 rfl) ?_
  refine lv_iconst (v := 4) hx hb dX0_behindGroup_5 (by decide) ?_
  refine lv_ishr hx hb dX0_behindGroup_6 ?_
  refine lv_iload_n hx hb dX0_behindGroup_7 rfl (lv_at hl 1 rfl) ?_
  refine kcall0 (krunS (As := [.int (g >>> ((4 : Int32) &&& 31)), .int ln]) (rest := [.int (g &&& 15)]) ⟨hx, hb, hml, hown, hts⟩ (c_X0_behindSix l D cB cI cZ ((g >>> ((4 : Int32) &&& 31))) ln) (va_cwS 2 hts gX0_behindGroup_X0_behindSix rfl rfl rfl (by decide +kernel) ⟨Nat.le_of_ble_eq_true rfl, Nat.le_of_ble_eq_true rfl⟩) hE hK hP hD hS hA [] rfl (by decide) rfl hl.1 rfl (Nat.le_of_ble_eq_true rfl) dX0_behindGroup_8 ⟨Nat.zero_le _, Nat.zero_le _⟩) hP hS hA (fun H locs hP hS => ?_)
  refine kcall0 (krunS (As := [.int (g &&& 15), .int (f_X0_behindSix ((g >>> ((4 : Int32) &&& 31))) ln)]) (rest := []) ⟨hx, hb, hml, hown, hts⟩ (c_X0_behindFour l D cB cI cZ ((g &&& 15)) ((f_X0_behindSix ((g >>> ((4 : Int32) &&& 31))) ln))) (va_cwS 2 hts gX0_behindGroup_X0_behindFour rfl rfl rfl (by decide +kernel) ⟨Nat.le_of_ble_eq_true rfl, Nat.le_of_ble_eq_true rfl⟩) hE hK hP hD hS hA [] rfl (by decide) rfl hl.1 rfl (Nat.le_of_ble_eq_true rfl) dX0_behindGroup_11 ⟨Nat.zero_le _, Nat.zero_le _⟩) hP hS hA (fun H locs hP hS => ?_)
  have hf : f_X0_behindGroup g ln = (f_X0_behindFour ((g &&& 15)) ((f_X0_behindSix ((g >>> ((4 : Int32) &&& 31))) ln))) := by simp only [f_X0_behindGroup]
  exact kreti hx hb hr hlocks hS hP hK hD dX0_behindGroup_14 hf.symm rfl

abbrev rmX0_groupOf : Room := { frames := 2, cells := 0, slots := 0, locals := 42 }
def f_X0_groupOf (v : Int32) (sg : Int32) (ln : Int32) : Int32 := (letv ((v &&& 31)) (fun x_1 => (letv ((f_X0_sixOf x_1 sg ln)) (fun x_2 => (letv ((f_X0_fourOf x_1 (((v >>> ((5 : Int32) &&& 31)) &&& 7)) sg ((f_X0_behindSix x_2 ln)))) (fun x_3 => ((x_2 <<< ((4 : Int32) &&& 31)) ||| x_3)))))))
set_option maxHeartbeats 4000000 in
set_option maxRecDepth 100000 in
theorem c_X0_groupOf (l : Launch) (D : va_G) (cB cI cZ : ClassId) (v : Int32) (sg : Int32) (ln : Int32) : CtI l yX0_groupOf wsX0_groupOf rmX0_groupOf D (tyv cB cI cZ) [.int v, .int sg, .int ln] (f_X0_groupOf v sg ln) ([]) ([]) := by
  refine CtI.of (cc := cX0_groupOf) (maxL := 6) (ret := (some .int)) (by decide +kernel) rfl (Nat.le_of_ble_eq_true rfl) ?_
  intro p e s m below meth c A ls hx hb hr hml hown hts hlocks hE hP hK hD hA hS hl
  have hown : s.vm.findClass RX0 = some m.cls := hown
  have hl : lv_has ls 6 [(0, .int v), (1, .int sg), (2, .int ln)] := hl
  refine lv_iload_n hx hb dX0_groupOf_0 rfl (lv_at hl 0 rfl) ?_
  refine lv_bipush (v := 31) hx hb dX0_groupOf_1 (by decide) ?_
  refine lv_iand hx hb dX0_groupOf_3 ?_
  refine lv_topi (fun x_1 ex_1 => ?_)
  refine lv_istore_n (lv' := [(3, .int x_1), (0, .int v), (1, .int sg), (2, .int ln)]) hx hb dX0_groupOf_4 rfl hl (by decide) rfl (fun ls hl => ?_)
  refine lv_iload_n hx hb dX0_groupOf_5 rfl (lv_at hl 0 rfl) ?_
  refine lv_iload_n hx hb dX0_groupOf_6 rfl (lv_at hl 2 rfl) ?_
  refine lv_iload_n hx hb dX0_groupOf_7 rfl (lv_at hl 3 rfl) ?_
  refine kcall0 (krunS (As := [.int x_1, .int sg, .int ln]) (rest := []) ⟨hx, hb, hml, hown, hts⟩ (c_X0_sixOf l D cB cI cZ x_1 sg ln) (va_cwS 3 hts gX0_groupOf_X0_sixOf rfl rfl rfl (by decide +kernel) ⟨Nat.le_of_ble_eq_true rfl, Nat.le_of_ble_eq_true rfl⟩) hE hK hP hD hS hA [] rfl (by decide) rfl hl.1 rfl (Nat.le_of_ble_eq_true rfl) dX0_groupOf_8 ⟨Nat.zero_le _, Nat.zero_le _⟩) hP hS hA (fun H locs hP hS => ?_)
  refine lv_topi (fun x_2 ex_2 => ?_)
  refine lv_istore (lv' := [(4, .int x_2), (3, .int x_1), (0, .int v), (1, .int sg), (2, .int ln)]) hx hb dX0_groupOf_11 hl (by decide) rfl (fun ls hl => ?_)
  refine lv_iload_n hx hb dX0_groupOf_13 rfl (lv_at hl 1 rfl) ?_
  refine lv_iload_n hx hb dX0_groupOf_14 rfl (lv_at hl 2 rfl) ?_
  refine lv_iconst (v := 5) hx hb dX0_groupOf_15 (by decide) ?_
  refine lv_ishr hx hb dX0_groupOf_16 ?_
  refine lv_bipush (v := 7) hx hb dX0_groupOf_17 (by decide) ?_
  refine lv_iand hx hb dX0_groupOf_19 ?_
  refine lv_iload_n hx hb dX0_groupOf_20 rfl (lv_at hl 3 rfl) ?_
  refine lv_iload hx hb dX0_groupOf_21 (lv_at hl 0 rfl) ?_
  refine lv_iload_n hx hb dX0_groupOf_23 rfl (lv_at hl 4 rfl) ?_
  refine kcall0 (krunS (As := [.int x_2, .int ln]) (rest := [.int sg, .int ((v >>> ((5 : Int32) &&& 31)) &&& 7), .int x_1]) ⟨hx, hb, hml, hown, hts⟩ (c_X0_behindSix l D cB cI cZ x_2 ln) (va_cwS 2 hts gX0_groupOf_X0_behindSix rfl rfl rfl (by decide +kernel) ⟨Nat.le_of_ble_eq_true rfl, Nat.le_of_ble_eq_true rfl⟩) hE hK hP hD hS hA [] rfl (by decide) rfl hl.1 rfl (Nat.le_of_ble_eq_true rfl) dX0_groupOf_24 ⟨Nat.zero_le _, Nat.zero_le _⟩) hP hS hA (fun H locs hP hS => ?_)
  refine kcall0 (krunS (As := [.int x_1, .int ((v >>> ((5 : Int32) &&& 31)) &&& 7), .int sg, .int (f_X0_behindSix x_2 ln)]) (rest := []) ⟨hx, hb, hml, hown, hts⟩ (c_X0_fourOf l D cB cI cZ x_1 (((v >>> ((5 : Int32) &&& 31)) &&& 7)) sg ((f_X0_behindSix x_2 ln))) (va_cwS 4 hts gX0_groupOf_X0_fourOf rfl rfl rfl (by decide +kernel) ⟨Nat.le_of_ble_eq_true rfl, Nat.le_of_ble_eq_true rfl⟩) hE hK hP hD hS hA [] rfl (by decide) rfl hl.1 rfl (Nat.le_of_ble_eq_true rfl) dX0_groupOf_27 ⟨Nat.zero_le _, Nat.zero_le _⟩) hP hS hA (fun H locs hP hS => ?_)
  refine lv_topi (fun x_3 ex_3 => ?_)
  refine lv_istore (lv' := [(5, .int x_3), (4, .int x_2), (3, .int x_1), (0, .int v), (1, .int sg), (2, .int ln)]) hx hb dX0_groupOf_30 hl (by decide) rfl (fun ls hl => ?_)
  refine lv_iload hx hb dX0_groupOf_32 (lv_at hl 1 rfl) ?_
  refine lv_iconst (v := 4) hx hb dX0_groupOf_34 (by decide) ?_
  refine lv_ishl hx hb dX0_groupOf_35 ?_
  refine lv_iload hx hb dX0_groupOf_36 (lv_at hl 0 rfl) ?_
  refine lv_ior hx hb dX0_groupOf_38 ?_
  have hf : f_X0_groupOf v sg ln = ((x_2 <<< ((4 : Int32) &&& 31)) ||| x_3) := by simp only [f_X0_groupOf, ↓letv_eq ex_1, ↓letv_eq ex_2, ↓letv_eq ex_3]
  exact kreti hx hb hr hlocks hS hP hK hD dX0_groupOf_39 hf.symm rfl

abbrev rmX0_isComma : Room := { frames := 0, cells := 0, slots := 0, locals := 0 }
def f_X0_isComma (g : Int32) : Int32 := (letv ((g >>> ((3 : Int32) &&& 31))) (fun x_1 => (if x_1 = 31 then 1 else (if x_1 = 96 then 1 else 0))))
set_option maxHeartbeats 4000000 in
set_option maxRecDepth 100000 in
theorem c_X0_isComma (l : Launch) (D : va_G) (cB cI cZ : ClassId) (g : Int32) : CtI l yX0_isComma wsX0_isComma rmX0_isComma D (tyv cB cI cZ) [.int g] (f_X0_isComma g) ([]) ([]) := by
  refine CtI.of (cc := cX0_isComma) (maxL := 2) (ret := (some .boolean)) (by decide +kernel) rfl (Nat.le_of_ble_eq_true rfl) ?_
  intro p e s m below meth c A ls hx hb hr hml hown hts hlocks hE hP hK hD hA hS hl
  have hown : s.vm.findClass RX0 = some m.cls := hown
  have hl : lv_has ls 2 [(0, .int g)] := hl
  refine lv_iload_n hx hb dX0_isComma_0 rfl (lv_at hl 0 rfl) ?_
  refine lv_iconst (v := 3) hx hb dX0_isComma_1 (by decide) ?_
  refine lv_ishr hx hb dX0_isComma_2 ?_
  refine lv_topi (fun x_1 ex_1 => ?_)
  refine lv_istore_n (lv' := [(1, .int x_1), (0, .int g)]) hx hb dX0_isComma_3 rfl hl (by decide) rfl (fun ls hl => ?_)
  refine lv_iload_n hx hb dX0_isComma_4 rfl (lv_at hl 0 rfl) ?_
  refine lv_bipush (v := 31) hx hb dX0_isComma_5 (by decide) ?_
  refine lv_icmp_eq (tgt := 16) hx hb dX0_isComma_7 (by decide) (fun c_2 => ?_) (fun c_2 => ?_)
  · refine lv_iconst (v := 1) hx hb dX0_isComma_16 (by decide) ?_
    refine lv_goto (tgt := 21) hx hb dX0_isComma_17 (by decide) ?_
    have hf : f_X0_isComma g = 1 := by simp only [f_X0_isComma, ↓letv_eq ex_1, ↓if_pos c_2]
    exact kretz hx hb hr hlocks hS hP hK hD dX0_isComma_21 (by rfl) hf.symm rfl
  · refine lv_iload_n hx hb dX0_isComma_10 rfl (lv_at hl 0 rfl) ?_
    refine lv_bipush (v := 96) hx hb dX0_isComma_11 (by decide) ?_
    refine lv_icmp_ne (tgt := 20) hx hb dX0_isComma_13 (by decide) (fun c_3 => ?_) (fun c_3 => ?_)
    · refine lv_iconst (v := 0) hx hb dX0_isComma_20 (by decide) ?_
      have hf : f_X0_isComma g = 0 := by simp only [f_X0_isComma, ↓letv_eq ex_1, ↓if_neg c_2, ↓if_neg c_3]
      exact kretz hx hb hr hlocks hS hP hK hD dX0_isComma_21 (by rfl) hf.symm rfl
    · refine lv_iconst (v := 1) hx hb dX0_isComma_16 (by decide) ?_
      refine lv_goto (tgt := 21) hx hb dX0_isComma_17 (by decide) ?_
      have hf : f_X0_isComma g = 1 := by simp only [f_X0_isComma, ↓letv_eq ex_1, ↓if_neg c_2, ↓if_pos c_3]
      exact kretz hx hb hr hlocks hS hP hK hD dX0_isComma_21 (by rfl) hf.symm rfl

abbrev rmX0_leanBeforeComma : Room := { frames := 0, cells := 0, slots := 0, locals := 0 }
def f_X0_leanBeforeComma (g : Int32) : Int32 := (if (g >>> ((3 : Int32) &&& 31)) = 31 then (-1) else 1)
set_option maxHeartbeats 4000000 in
set_option maxRecDepth 100000 in
theorem c_X0_leanBeforeComma (l : Launch) (D : va_G) (cB cI cZ : ClassId) (g : Int32) : CtI l yX0_leanBeforeComma wsX0_leanBeforeComma rmX0_leanBeforeComma D (tyv cB cI cZ) [.int g] (f_X0_leanBeforeComma g) ([]) ([]) := by
  refine CtI.of (cc := cX0_leanBeforeComma) (maxL := 1) (ret := (some .int)) (by decide +kernel) rfl (Nat.le_of_ble_eq_true rfl) ?_
  intro p e s m below meth c A ls hx hb hr hml hown hts hlocks hE hP hK hD hA hS hl
  have hown : s.vm.findClass RX0 = some m.cls := hown
  have hl : lv_has ls 1 [(0, .int g)] := hl
  refine lv_iload_n hx hb dX0_leanBeforeComma_0 rfl (lv_at hl 0 rfl) ?_
  refine lv_iconst (v := 3) hx hb dX0_leanBeforeComma_1 (by decide) ?_
  refine lv_ishr hx hb dX0_leanBeforeComma_2 ?_
  refine lv_bipush (v := 31) hx hb dX0_leanBeforeComma_3 (by decide) ?_
  refine lv_icmp_ne (tgt := 12) hx hb dX0_leanBeforeComma_5 (by decide) (fun c_1 => ?_) (fun c_1 => ?_)
  · refine lv_iconst (v := 1) hx hb dX0_leanBeforeComma_12 (by decide) ?_
    have hf : f_X0_leanBeforeComma g = 1 := by simp only [f_X0_leanBeforeComma, ↓if_neg c_1]
    exact kreti hx hb hr hlocks hS hP hK hD dX0_leanBeforeComma_13 hf.symm rfl
  · refine lv_iconst (v := (-1)) hx hb dX0_leanBeforeComma_8 (by decide) ?_
    refine lv_goto (tgt := 13) hx hb dX0_leanBeforeComma_9 (by decide) ?_
    have hf : f_X0_leanBeforeComma g = (-1) := by simp only [f_X0_leanBeforeComma, ↓if_pos c_1]
    exact kreti hx hb hr hlocks hS hP hK hD dX0_leanBeforeComma_13 hf.symm rfl

abbrev rmX0_highPart : Room := { frames := 1, cells := 0, slots := 0, locals := 23 }
def lp_X0_highPart_3 : Nat → Int32 → Int32 → Int32 → Int32 → Int32 → Int32
  | 0, _, _, _, _, _ => 0
  | n + 1, v0, v1, v2, v3, v4 => (if (8 : Int32) ≤ v4 then (-1) else (if (f_X0_fourOf v1 v4 v2 v3) = v0 then (if v2 = 0 then v4 else (if (f_X0_isSign v1 v4) = 0 then lp_X0_highPart_3 n v0 v1 v2 v3 ((v4 + 1)) else v4)) else lp_X0_highPart_3 n v0 v1 v2 v3 ((v4 + 1))))
set_option maxHeartbeats 4000000 in
set_option maxRecDepth 100000 in
theorem lq_X0_highPart_3 (l : Launch) (D : va_G) (cB cI cZ : ClassId) {p : Program} {e : Env} {s : State} {m : MethodId} {args : Array Value} {below : List Frame} {meth : Method} {c : Code} {A : Nat → Prop} (hx : p.tables.exec = Jvm.exec) (hb : c.code = cX0_highPart) (hr : meth.sig.returnType = (some .int)) (hml : c.maxLocals = 5) (hown : s.vm.findClass RX0 = some m.cls) (hts : ∀ w ∈ wsX0_highPart, w.before args s = true) (hlocks : meth.locks = false) (hE : ev A s s.heap) (hK : va_K D vwCl (tyv cB cI cZ) s) (hA : ∀ q, s.heap.size ≤ q → A q) : ∀ (n : Nat) (v0 : Int32) (v1 : Int32) (v2 : Int32) (v3 : Int32) (v4 : Int32), (0 ≤ v4.toInt ∧ v4.toInt ≤ 8 ∧ (8 : Int) < v4.toInt + n) → ∀ (H : Heap) (locs : List Loc), va_P D vwCl [] H → va_D A [] → va_S A s.heap H locs → ∀ (ls : Array Slot), lv_has ls 5 [(0, .int v0), (1, .int v1), (2, .int v2), (3, .int v3), (4, .int v4)] → W p l e rmX0_highPart s m args below meth c H locs 0 0 (MQ below (kQi D (tyv cB cI cZ) A (lp_X0_highPart_3 n v0 v1 v2 v3 v4) ([])) args s 0 0 A) (F0 m 3 ls []) := by
  intro n
  induction n with
  | zero => intro v0 v1 v2 v3 v4 hm; omega
  | succ n ih =>
    intro v0 v1 v2 v3 v4 hm H locs hP hD hS ls hl
    refine lv_iload hx hb dX0_highPart_3 (lv_at hl 4 rfl) ?_
    refine lv_bipush (v := 8) hx hb dX0_highPart_5 (by decide) ?_
    refine lv_icmp_ge (tgt := 44) hx hb dX0_highPart_7 (by decide) (fun c_1 => ?_) (fun c_1 => ?_)
    · refine lv_iconst (v := (-1)) hx hb dX0_highPart_44 (by decide) ?_
      have hf : lp_X0_highPart_3 (n + 1) v0 v1 v2 v3 v4 = (-1) := by simp only [lp_X0_highPart_3, ↓if_pos c_1]
      exact kreti hx hb hr hlocks hS hP hK hD dX0_highPart_45 hf.symm rfl
    · refine lv_iload_n hx hb dX0_highPart_10 rfl (lv_at hl 1 rfl) ?_
      refine lv_iload hx hb dX0_highPart_11 (lv_at hl 4 rfl) ?_
      refine lv_iload_n hx hb dX0_highPart_13 rfl (lv_at hl 2 rfl) ?_
      refine lv_iload_n hx hb dX0_highPart_14 rfl (lv_at hl 3 rfl) ?_
      refine kcall0 (krunS (As := [.int v1, .int v4, .int v2, .int v3]) (rest := []) ⟨hx, hb, hml, hown, hts⟩ (c_X0_fourOf l D cB cI cZ v1 v4 v2 v3) (va_cwS 4 hts gX0_highPart_X0_fourOf rfl rfl rfl (by decide +kernel) ⟨Nat.le_of_ble_eq_true rfl, Nat.le_of_ble_eq_true rfl⟩) hE hK hP hD hS hA [] rfl (by decide) rfl hl.1 rfl (Nat.le_of_ble_eq_true rfl) dX0_highPart_15 ⟨Nat.zero_le _, Nat.zero_le _⟩) hP hS hA (fun H locs hP hS => ?_)
      refine lv_iload_n hx hb dX0_highPart_18 rfl (lv_at hl 0 rfl) ?_
      refine lv_icmp_ne (tgt := 38) hx hb dX0_highPart_19 (by decide) (fun c_2 => ?_) (fun c_2 => ?_)
      · refine lv_iinc (v := (v4 + 1)) (lv' := [(4, .int (v4 + 1)), (0, .int v0), (1, .int v1), (2, .int v2), (3, .int v3)]) hx hb dX0_highPart_38 hl (k := 4) rfl rfl (by decide) rfl (fun ls hl => ?_)
        refine lv_goto (tgt := 3) hx hb dX0_highPart_41 (by decide) ?_
        have hf : lp_X0_highPart_3 (n + 1) v0 v1 v2 v3 v4 = lp_X0_highPart_3 n v0 v1 v2 v3 ((v4 + 1)) := by simp only [lp_X0_highPart_3, ↓if_neg c_1, ↓if_neg c_2]
        rw [hf]
        exact ih v0 v1 v2 v3 ((v4 + 1)) (by have e_0 := i_nle c_1; have z8 : (8 : Int32).toInt = 8 := rfl; have q := i_inc v4 (by omega); omega) _ _ hP hD hS ls (lv_sub hl [1, 2, 3, 4, 0] rfl)
      · refine lv_iload_n hx hb dX0_highPart_22 rfl (lv_at hl 2 rfl) ?_
        refine lv_if_eq (tgt := 35) hx hb dX0_highPart_23 (by decide) (fun c_3 => ?_) (fun c_3 => ?_)
        · refine lv_iload hx hb dX0_highPart_35 (lv_at hl 4 rfl) ?_
          have hf : lp_X0_highPart_3 (n + 1) v0 v1 v2 v3 v4 = v4 := by simp only [lp_X0_highPart_3, ↓if_neg c_1, ↓if_pos c_2, ↓if_pos c_3]
          exact kreti hx hb hr hlocks hS hP hK hD dX0_highPart_37 hf.symm rfl
        · refine lv_iload_n hx hb dX0_highPart_26 rfl (lv_at hl 1 rfl) ?_
          refine lv_iload hx hb dX0_highPart_27 (lv_at hl 4 rfl) ?_
          refine kcall0 (krunS (As := [.int v1, .int v4]) (rest := []) ⟨hx, hb, hml, hown, hts⟩ (c_X0_isSign l D cB cI cZ v1 v4) (va_cwS 2 hts gX0_highPart_X0_isSign rfl rfl rfl (by decide +kernel) ⟨Nat.le_of_ble_eq_true rfl, Nat.le_of_ble_eq_true rfl⟩) hE hK hP hD hS hA [] rfl (by decide) rfl hl.1 rfl (Nat.le_of_ble_eq_true rfl) dX0_highPart_29 ⟨Nat.zero_le _, Nat.zero_le _⟩) hP hS hA (fun H locs hP hS => ?_)
          refine lv_if_eq (tgt := 38) hx hb dX0_highPart_32 (by decide) (fun c_4 => ?_) (fun c_4 => ?_)
          · refine lv_iinc (v := (v4 + 1)) (lv' := [(4, .int (v4 + 1)), (0, .int v0), (1, .int v1), (2, .int v2), (3, .int v3)]) hx hb dX0_highPart_38 hl (k := 4) rfl rfl (by decide) rfl (fun ls hl => ?_)
            refine lv_goto (tgt := 3) hx hb dX0_highPart_41 (by decide) ?_
            have hf : lp_X0_highPart_3 (n + 1) v0 v1 v2 v3 v4 = lp_X0_highPart_3 n v0 v1 v2 v3 ((v4 + 1)) := by simp only [lp_X0_highPart_3, ↓if_neg c_1, ↓if_pos c_2, ↓if_neg c_3, ↓if_pos c_4]
            rw [hf]
            exact ih v0 v1 v2 v3 ((v4 + 1)) (by have e_0 := i_nle c_1; have e_1 := congrArg Int32.toInt c_2; have e_3 := congrArg Int32.toInt c_4; have z0 : (0 : Int32).toInt = 0 := rfl; have z8 : (8 : Int32).toInt = 8 := rfl; have q := i_inc v4 (by omega); omega) _ _ hP hD hS ls (lv_sub hl [1, 2, 3, 4, 0] rfl)
          · refine lv_iload hx hb dX0_highPart_35 (lv_at hl 4 rfl) ?_
            have hf : lp_X0_highPart_3 (n + 1) v0 v1 v2 v3 v4 = v4 := by simp only [lp_X0_highPart_3, ↓if_neg c_1, ↓if_pos c_2, ↓if_neg c_3, ↓if_neg c_4]
            exact kreti hx hb hr hlocks hS hP hK hD dX0_highPart_37 hf.symm rfl
def f_X0_highPart (four : Int32) (x : Int32) (sg : Int32) (ln : Int32) : Int32 := (lp_X0_highPart_3 9 four x sg ln 0)
set_option maxHeartbeats 4000000 in
set_option maxRecDepth 100000 in
theorem c_X0_highPart (l : Launch) (D : va_G) (cB cI cZ : ClassId) (four : Int32) (x : Int32) (sg : Int32) (ln : Int32) : CtI l yX0_highPart wsX0_highPart rmX0_highPart D (tyv cB cI cZ) [.int four, .int x, .int sg, .int ln] (f_X0_highPart four x sg ln) ([]) ([]) := by
  refine CtI.of (cc := cX0_highPart) (maxL := 5) (ret := (some .int)) (by decide +kernel) rfl (Nat.le_of_ble_eq_true rfl) ?_
  intro p e s m below meth c A ls hx hb hr hml hown hts hlocks hE hP hK hD hA hS hl
  have hown : s.vm.findClass RX0 = some m.cls := hown
  have hl : lv_has ls 5 [(0, .int four), (1, .int x), (2, .int sg), (3, .int ln)] := hl
  refine lv_iconst (v := 0) hx hb dX0_highPart_0 (by decide) ?_
  refine lv_istore (lv' := [(4, .int 0), (0, .int four), (1, .int x), (2, .int sg), (3, .int ln)]) hx hb dX0_highPart_1 hl (by decide) rfl (fun ls hl => ?_)
  have hf : f_X0_highPart four x sg ln = lp_X0_highPart_3 9 four x sg ln 0 := by simp only [f_X0_highPart]
  rw [hf]
  exact lq_X0_highPart_3 l D cB cI cZ hx hb hr hml hown hts hlocks hE hK hA 9 four x sg ln 0 (by decide) _ _ hP hD hS ls (lv_sub hl [1, 2, 3, 4, 0] rfl)

abbrev rmX0_byteOfGroup : Room := { frames := 2, cells := 0, slots := 0, locals := 47 }
def lp_X0_byteOfGroup_7 : Nat → Int32 → Int32 → Int32 → Int32 → Int32 → Int32
  | 0, _, _, _, _, _ => 0
  | n + 1, v0, v1, v2, v3, v4 => (if (32 : Int32) ≤ v4 then (-1) else (if (f_X0_sixOf v4 v1 v2) = v3 then (letv ((f_X0_highPart ((v0 &&& 15)) v4 v1 ((f_X0_behindSix v3 v2)))) (fun x_3 => (if x_3 = (-1) then lp_X0_byteOfGroup_7 n v0 v1 v2 v3 ((v4 + 1)) else ((x_3 * 32) + v4)))) else lp_X0_byteOfGroup_7 n v0 v1 v2 v3 ((v4 + 1))))
set_option maxHeartbeats 4000000 in
set_option maxRecDepth 100000 in
theorem lq_X0_byteOfGroup_7 (l : Launch) (D : va_G) (cB cI cZ : ClassId) {p : Program} {e : Env} {s : State} {m : MethodId} {args : Array Value} {below : List Frame} {meth : Method} {c : Code} {A : Nat → Prop} (hx : p.tables.exec = Jvm.exec) (hb : c.code = cX0_byteOfGroup) (hr : meth.sig.returnType = (some .int)) (hml : c.maxLocals = 6) (hown : s.vm.findClass RX0 = some m.cls) (hts : ∀ w ∈ wsX0_byteOfGroup, w.before args s = true) (hlocks : meth.locks = false) (hE : ev A s s.heap) (hK : va_K D vwCl (tyv cB cI cZ) s) (hA : ∀ q, s.heap.size ≤ q → A q) : ∀ (n : Nat) (v0 : Int32) (v1 : Int32) (v2 : Int32) (v3 : Int32) (v4 : Int32), (0 ≤ v4.toInt ∧ v4.toInt ≤ 32 ∧ (32 : Int) < v4.toInt + n) → ∀ (H : Heap) (locs : List Loc), va_P D vwCl [] H → va_D A [] → va_S A s.heap H locs → ∀ (ls : Array Slot), lv_has ls 6 [(0, .int v0), (1, .int v1), (2, .int v2), (3, .int v3), (4, .int v4)] → W p l e rmX0_byteOfGroup s m args below meth c H locs 0 0 (MQ below (kQi D (tyv cB cI cZ) A (lp_X0_byteOfGroup_7 n v0 v1 v2 v3 v4) ([])) args s 0 0 A) (F0 m 7 ls []) := by
  intro n
  induction n with
  | zero => intro v0 v1 v2 v3 v4 hm; omega
  | succ n ih =>
    intro v0 v1 v2 v3 v4 hm H locs hP hD hS ls hl
    refine lv_iload hx hb dX0_byteOfGroup_7 (lv_at hl 4 rfl) ?_
    refine lv_bipush (v := 32) hx hb dX0_byteOfGroup_9 (by decide) ?_
    refine lv_icmp_ge (tgt := 63) hx hb dX0_byteOfGroup_11 (by decide) (fun c_1 => ?_) (fun c_1 => ?_)
    · refine lv_iconst (v := (-1)) hx hb dX0_byteOfGroup_63 (by decide) ?_
      have hf : lp_X0_byteOfGroup_7 (n + 1) v0 v1 v2 v3 v4 = (-1) := by simp only [lp_X0_byteOfGroup_7, ↓if_pos c_1]
      exact kreti hx hb hr hlocks hS hP hK hD dX0_byteOfGroup_64 hf.symm rfl
    · refine lv_iload hx hb dX0_byteOfGroup_14 (lv_at hl 4 rfl) ?_
      refine lv_iload_n hx hb dX0_byteOfGroup_16 rfl (lv_at hl 1 rfl) ?_
      refine lv_iload_n hx hb dX0_byteOfGroup_17 rfl (lv_at hl 2 rfl) ?_
      refine kcall0 (krunS (As := [.int v4, .int v1, .int v2]) (rest := []) ⟨hx, hb, hml, hown, hts⟩ (c_X0_sixOf l D cB cI cZ v4 v1 v2) (va_cwS 3 hts gX0_byteOfGroup_X0_sixOf rfl rfl rfl (by decide +kernel) ⟨Nat.le_of_ble_eq_true rfl, Nat.le_of_ble_eq_true rfl⟩) hE hK hP hD hS hA [] rfl (by decide) rfl hl.1 rfl (Nat.le_of_ble_eq_true rfl) dX0_byteOfGroup_18 ⟨Nat.zero_le _, Nat.zero_le _⟩) hP hS hA (fun H locs hP hS => ?_)
      refine lv_iload_n hx hb dX0_byteOfGroup_21 rfl (lv_at hl 3 rfl) ?_
      refine lv_icmp_ne (tgt := 57) hx hb dX0_byteOfGroup_22 (by decide) (fun c_2 => ?_) (fun c_2 => ?_)
      · refine lv_iinc (v := (v4 + 1)) (lv' := [(4, .int (v4 + 1)), (0, .int v0), (1, .int v1), (2, .int v2), (3, .int v3)]) hx hb dX0_byteOfGroup_57 hl (k := 4) rfl rfl (by decide) rfl (fun ls hl => ?_)
        refine lv_goto (tgt := 7) hx hb dX0_byteOfGroup_60 (by decide) ?_
        have hf : lp_X0_byteOfGroup_7 (n + 1) v0 v1 v2 v3 v4 = lp_X0_byteOfGroup_7 n v0 v1 v2 v3 ((v4 + 1)) := by simp only [lp_X0_byteOfGroup_7, ↓if_neg c_1, ↓if_neg c_2]
        rw [hf]
        exact ih v0 v1 v2 v3 ((v4 + 1)) (by have e_0 := i_nle c_1; have z32 : (32 : Int32).toInt = 32 := rfl; have q := i_inc v4 (by omega); omega) _ _ hP hD hS ls (lv_sub hl [1, 2, 3, 4, 0] rfl)
      · refine lv_iload_n hx hb dX0_byteOfGroup_25 rfl (lv_at hl 0 rfl) ?_
        refine lv_bipush (v := 15) hx hb dX0_byteOfGroup_26 (by decide) ?_
        refine lv_iand hx hb dX0_byteOfGroup_28 ?_
        refine lv_iload hx hb dX0_byteOfGroup_29 (lv_at hl 4 rfl) ?_
        refine lv_iload_n hx hb dX0_byteOfGroup_31 rfl (lv_at hl 1 rfl) ?_
        refine lv_iload_n hx hb dX0_byteOfGroup_32 rfl (lv_at hl 3 rfl) ?_
        refine lv_iload_n hx hb dX0_byteOfGroup_33 rfl (lv_at hl 2 rfl) ?_
        refine kcall0 (krunS (As := [.int v3, .int v2]) (rest := [.int v1, .int v4, .int (v0 &&& 15)]) ⟨hx, hb, hml, hown, hts⟩ (c_X0_behindSix l D cB cI cZ v3 v2) (va_cwS 2 hts gX0_byteOfGroup_X0_behindSix rfl rfl rfl (by decide +kernel) ⟨Nat.le_of_ble_eq_true rfl, Nat.le_of_ble_eq_true rfl⟩) hE hK hP hD hS hA [] rfl (by decide) rfl hl.1 rfl (Nat.le_of_ble_eq_true rfl) dX0_byteOfGroup_34 ⟨Nat.zero_le _, Nat.zero_le _⟩) hP hS hA (fun H locs hP hS => ?_)
        refine kcall0 (krunS (As := [.int (v0 &&& 15), .int v4, .int v1, .int (f_X0_behindSix v3 v2)]) (rest := []) ⟨hx, hb, hml, hown, hts⟩ (c_X0_highPart l D cB cI cZ ((v0 &&& 15)) v4 v1 ((f_X0_behindSix v3 v2))) (va_cwS 4 hts gX0_byteOfGroup_X0_highPart rfl rfl rfl (by decide +kernel) ⟨Nat.le_of_ble_eq_true rfl, Nat.le_of_ble_eq_true rfl⟩) hE hK hP hD hS hA [] rfl (by decide) rfl hl.1 rfl (Nat.le_of_ble_eq_true rfl) dX0_byteOfGroup_37 ⟨Nat.zero_le _, Nat.zero_le _⟩) hP hS hA (fun H locs hP hS => ?_)
        refine lv_topi (fun x_3 ex_3 => ?_)
        refine lv_istore (lv' := [(5, .int x_3), (0, .int v0), (1, .int v1), (2, .int v2), (3, .int v3), (4, .int v4)]) hx hb dX0_byteOfGroup_40 hl (by decide) rfl (fun ls hl => ?_)
        refine lv_iload hx hb dX0_byteOfGroup_42 (lv_at hl 0 rfl) ?_
        refine lv_iconst (v := (-1)) hx hb dX0_byteOfGroup_44 (by decide) ?_
        refine lv_icmp_eq (tgt := 57) hx hb dX0_byteOfGroup_45 (by decide) (fun c_4 => ?_) (fun c_4 => ?_)
        · refine lv_iinc (v := (v4 + 1)) (lv' := [(4, .int (v4 + 1)), (5, .int x_3), (0, .int v0), (1, .int v1), (2, .int v2), (3, .int v3)]) hx hb dX0_byteOfGroup_57 hl (k := 5) rfl rfl (by decide) rfl (fun ls hl => ?_)
          refine lv_goto (tgt := 7) hx hb dX0_byteOfGroup_60 (by decide) ?_
          have hf : lp_X0_byteOfGroup_7 (n + 1) v0 v1 v2 v3 v4 = lp_X0_byteOfGroup_7 n v0 v1 v2 v3 ((v4 + 1)) := by simp only [lp_X0_byteOfGroup_7, ↓letv_eq ex_3, ↓if_neg c_1, ↓if_pos c_2, ↓if_pos c_4]
          rw [hf]
          exact ih v0 v1 v2 v3 ((v4 + 1)) (by have e_0 := i_nle c_1; have e_1 := congrArg Int32.toInt c_2; have e_2 := congrArg Int32.toInt c_4; have zm1 : ((-1) : Int32).toInt = -1 := rfl; have z32 : (32 : Int32).toInt = 32 := rfl; have q := i_inc v4 (by omega); omega) _ _ hP hD hS ls (lv_sub hl [2, 3, 4, 5, 0] rfl)
        · refine lv_iload hx hb dX0_byteOfGroup_48 (lv_at hl 0 rfl) ?_
          refine lv_bipush (v := 32) hx hb dX0_byteOfGroup_50 (by decide) ?_
          refine lv_imul hx hb dX0_byteOfGroup_52 ?_
          refine lv_iload hx hb dX0_byteOfGroup_53 (lv_at hl 5 rfl) ?_
          refine lv_iadd hx hb dX0_byteOfGroup_55 ?_
          have hf : lp_X0_byteOfGroup_7 (n + 1) v0 v1 v2 v3 v4 = ((x_3 * 32) + v4) := by simp only [lp_X0_byteOfGroup_7, ↓letv_eq ex_3, ↓if_neg c_1, ↓if_pos c_2, ↓if_neg c_4]
          exact kreti hx hb hr hlocks hS hP hK hD dX0_byteOfGroup_56 hf.symm rfl
def f_X0_byteOfGroup (g : Int32) (sg : Int32) (ln : Int32) : Int32 := (letv ((g >>> ((4 : Int32) &&& 31))) (fun x_1 => (lp_X0_byteOfGroup_7 33 g sg ln x_1 0)))
set_option maxHeartbeats 4000000 in
set_option maxRecDepth 100000 in
theorem c_X0_byteOfGroup (l : Launch) (D : va_G) (cB cI cZ : ClassId) (g : Int32) (sg : Int32) (ln : Int32) : CtI l yX0_byteOfGroup wsX0_byteOfGroup rmX0_byteOfGroup D (tyv cB cI cZ) [.int g, .int sg, .int ln] (f_X0_byteOfGroup g sg ln) ([]) ([]) := by
  refine CtI.of (cc := cX0_byteOfGroup) (maxL := 6) (ret := (some .int)) (by decide +kernel) rfl (Nat.le_of_ble_eq_true rfl) ?_
  intro p e s m below meth c A ls hx hb hr hml hown hts hlocks hE hP hK hD hA hS hl
  have hown : s.vm.findClass RX0 = some m.cls := hown
  have hl : lv_has ls 6 [(0, .int g), (1, .int sg), (2, .int ln)] := hl
  refine lv_iload_n hx hb dX0_byteOfGroup_0 rfl (lv_at hl 0 rfl) ?_
  refine lv_iconst (v := 4) hx hb dX0_byteOfGroup_1 (by decide) ?_
  refine lv_ishr hx hb dX0_byteOfGroup_2 ?_
  refine lv_topi (fun x_1 ex_1 => ?_)
  refine lv_istore_n (lv' := [(3, .int x_1), (0, .int g), (1, .int sg), (2, .int ln)]) hx hb dX0_byteOfGroup_3 rfl hl (by decide) rfl (fun ls hl => ?_)
  refine lv_iconst (v := 0) hx hb dX0_byteOfGroup_4 (by decide) ?_
  refine lv_istore (lv' := [(4, .int 0), (3, .int x_1), (0, .int g), (1, .int sg), (2, .int ln)]) hx hb dX0_byteOfGroup_5 hl (by decide) rfl (fun ls hl => ?_)
  have hf : f_X0_byteOfGroup g sg ln = lp_X0_byteOfGroup_7 33 g sg ln x_1 0 := by simp only [f_X0_byteOfGroup, ↓letv_eq ex_1]
  rw [hf]
  exact lq_X0_byteOfGroup_7 l D cB cI cZ hx hb hr hml hown hts hlocks hE hK hA 33 g sg ln x_1 0 (by decide) _ _ hP hD hS ls (lv_sub hl [2, 3, 4, 1, 0] rfl)

abbrev rmX0_symbolOf : Room := { frames := 3, cells := 0, slots := 0, locals := 72 }
def f_X0_symbolOf (g : Int32) (ln : Int32) : Int32 := (if g < 0 then (-1) else (if (1023 : Int32) < g then (-1) else (if ln = (-1) then (letv ((f_X0_byteOfGroup g 0 ln)) (fun x_4 => (if x_4 = (-1) then (letv ((f_X0_byteOfGroup g 1 ln)) (fun x_6 => (if x_6 = (-1) then (-1) else (x_6 + 256)))) else x_4))) else (if ln = 1 then (letv ((f_X0_byteOfGroup g 0 ln)) (fun x_9 => (if x_9 = (-1) then (letv ((f_X0_byteOfGroup g 1 ln)) (fun x_11 => (if x_11 = (-1) then (-1) else (x_11 + 256)))) else x_9))) else (-1)))))
set_option maxHeartbeats 4000000 in
set_option maxRecDepth 100000 in
theorem c_X0_symbolOf (l : Launch) (D : va_G) (cB cI cZ : ClassId) (g : Int32) (ln : Int32) : CtI l yX0_symbolOf wsX0_symbolOf rmX0_symbolOf D (tyv cB cI cZ) [.int g, .int ln] (f_X0_symbolOf g ln) ([]) ([]) := by
  refine CtI.of (cc := cX0_symbolOf) (maxL := 4) (ret := (some .int)) (by decide +kernel) rfl (Nat.le_of_ble_eq_true rfl) ?_
  intro p e s m below meth c A ls hx hb hr hml hown hts hlocks hE hP hK hD hA hS hl
  have hown : s.vm.findClass RX0 = some m.cls := hown
  have hl : lv_has ls 4 [(0, .int g), (1, .int ln)] := hl
  refine lv_iload_n hx hb dX0_symbolOf_0 rfl (lv_at hl 0 rfl) ?_
  refine lv_if_lt (tgt := 21) hx hb dX0_symbolOf_1 (by decide) (fun c_1 => ?_) (fun c_1 => ?_)
  · refine lv_iconst (v := (-1)) hx hb dX0_symbolOf_21 (by decide) ?_
    have hf : f_X0_symbolOf g ln = (-1) := by simp only [f_X0_symbolOf, ↓if_pos c_1]
    exact kreti hx hb hr hlocks hS hP hK hD dX0_symbolOf_22 hf.symm rfl
  · refine lv_iload_n hx hb dX0_symbolOf_4 rfl (lv_at hl 0 rfl) ?_
    refine lv_sipush (v := 1023) hx hb dX0_symbolOf_5 (by decide) ?_
    refine lv_icmp_gt (tgt := 21) hx hb dX0_symbolOf_8 (by decide) (fun c_2 => ?_) (fun c_2 => ?_)
    · refine lv_iconst (v := (-1)) hx hb dX0_symbolOf_21 (by decide) ?_
      have hf : f_X0_symbolOf g ln = (-1) := by simp only [f_X0_symbolOf, ↓if_neg c_1, ↓if_pos c_2]
      exact kreti hx hb hr hlocks hS hP hK hD dX0_symbolOf_22 hf.symm rfl
    · refine lv_iload_n hx hb dX0_symbolOf_11 rfl (lv_at hl 1 rfl) ?_
      refine lv_iconst (v := (-1)) hx hb dX0_symbolOf_12 (by decide) ?_
      refine lv_icmp_eq (tgt := 23) hx hb dX0_symbolOf_13 (by decide) (fun c_3 => ?_) (fun c_3 => ?_)
      · refine lv_iload_n hx hb dX0_symbolOf_23 rfl (lv_at hl 0 rfl) ?_
        refine lv_iconst (v := 0) hx hb dX0_symbolOf_24 (by decide) ?_
        refine lv_iload_n hx hb dX0_symbolOf_25 rfl (lv_at hl 1 rfl) ?_
        refine kcall0 (krunS (As := [.int g, .int 0, .int ln]) (rest := []) ⟨hx, hb, hml, hown, hts⟩ (c_X0_byteOfGroup l D cB cI cZ g 0 ln) (va_cwS 3 hts gX0_symbolOf_X0_byteOfGroup rfl rfl rfl (by decide +kernel) ⟨Nat.le_of_ble_eq_true rfl, Nat.le_of_ble_eq_true rfl⟩) hE hK hP hD hS hA [] rfl (by decide) rfl hl.1 rfl (Nat.le_of_ble_eq_true rfl) dX0_symbolOf_26 ⟨Nat.zero_le _, Nat.zero_le _⟩) hP hS hA (fun H locs hP hS => ?_)
        refine lv_topi (fun x_4 ex_4 => ?_)
        refine lv_istore_n (lv' := [(2, .int x_4), (0, .int g), (1, .int ln)]) hx hb dX0_symbolOf_29 rfl hl (by decide) rfl (fun ls hl => ?_)
        refine lv_iload_n hx hb dX0_symbolOf_30 rfl (lv_at hl 0 rfl) ?_
        refine lv_iconst (v := (-1)) hx hb dX0_symbolOf_31 (by decide) ?_
        refine lv_icmp_eq (tgt := 37) hx hb dX0_symbolOf_32 (by decide) (fun c_5 => ?_) (fun c_5 => ?_)
        · refine lv_iload_n hx hb dX0_symbolOf_37 rfl (lv_at hl 1 rfl) ?_
          refine lv_iconst (v := 1) hx hb dX0_symbolOf_38 (by decide) ?_
          refine lv_iload_n hx hb dX0_symbolOf_39 rfl (lv_at hl 2 rfl) ?_
          refine kcall0 (krunS (As := [.int g, .int 1, .int ln]) (rest := []) ⟨hx, hb, hml, hown, hts⟩ (c_X0_byteOfGroup l D cB cI cZ g 1 ln) (va_cwS 3 hts gX0_symbolOf_X0_byteOfGroup rfl rfl rfl (by decide +kernel) ⟨Nat.le_of_ble_eq_true rfl, Nat.le_of_ble_eq_true rfl⟩) hE hK hP hD hS hA [] rfl (by decide) rfl hl.1 rfl (Nat.le_of_ble_eq_true rfl) dX0_symbolOf_40 ⟨Nat.zero_le _, Nat.zero_le _⟩) hP hS hA (fun H locs hP hS => ?_)
          refine lv_topi (fun x_6 ex_6 => ?_)
          refine lv_istore_n (lv' := [(3, .int x_6), (2, .int x_4), (0, .int g), (1, .int ln)]) hx hb dX0_symbolOf_43 rfl hl (by decide) rfl (fun ls hl => ?_)
          refine lv_iload_n hx hb dX0_symbolOf_44 rfl (lv_at hl 0 rfl) ?_
          refine lv_iconst (v := (-1)) hx hb dX0_symbolOf_45 (by decide) ?_
          refine lv_icmp_ne (tgt := 53) hx hb dX0_symbolOf_46 (by decide) (fun c_7 => ?_) (fun c_7 => ?_)
          · refine lv_iload_n hx hb dX0_symbolOf_53 rfl (lv_at hl 0 rfl) ?_
            refine lv_sipush (v := 256) hx hb dX0_symbolOf_54 (by decide) ?_
            refine lv_iadd hx hb dX0_symbolOf_57 ?_
            have hf : f_X0_symbolOf g ln = (x_6 + 256) := by simp only [f_X0_symbolOf, ↓letv_eq ex_4, ↓letv_eq ex_6, ↓if_neg c_1, ↓if_neg c_2, ↓if_pos c_3, ↓if_pos c_5, ↓if_neg c_7]
            exact kreti hx hb hr hlocks hS hP hK hD dX0_symbolOf_58 hf.symm rfl
          · refine lv_iconst (v := (-1)) hx hb dX0_symbolOf_49 (by decide) ?_
            refine lv_goto (tgt := 58) hx hb dX0_symbolOf_50 (by decide) ?_
            have hf : f_X0_symbolOf g ln = (-1) := by simp only [f_X0_symbolOf, ↓letv_eq ex_4, ↓letv_eq ex_6, ↓if_neg c_1, ↓if_neg c_2, ↓if_pos c_3, ↓if_pos c_5, ↓if_pos c_7]
            exact kreti hx hb hr hlocks hS hP hK hD dX0_symbolOf_58 hf.symm rfl
        · refine lv_iload_n hx hb dX0_symbolOf_35 rfl (lv_at hl 0 rfl) ?_
          have hf : f_X0_symbolOf g ln = x_4 := by simp only [f_X0_symbolOf, ↓letv_eq ex_4, ↓if_neg c_1, ↓if_neg c_2, ↓if_pos c_3, ↓if_neg c_5]
          exact kreti hx hb hr hlocks hS hP hK hD dX0_symbolOf_36 hf.symm rfl
      · refine lv_iload_n hx hb dX0_symbolOf_16 rfl (lv_at hl 1 rfl) ?_
        refine lv_iconst (v := 1) hx hb dX0_symbolOf_17 (by decide) ?_
        refine lv_icmp_eq (tgt := 23) hx hb dX0_symbolOf_18 (by decide) (fun c_8 => ?_) (fun c_8 => ?_)
        · refine lv_iload_n hx hb dX0_symbolOf_23 rfl (lv_at hl 0 rfl) ?_
          refine lv_iconst (v := 0) hx hb dX0_symbolOf_24 (by decide) ?_
          refine lv_iload_n hx hb dX0_symbolOf_25 rfl (lv_at hl 1 rfl) ?_
          refine kcall0 (krunS (As := [.int g, .int 0, .int ln]) (rest := []) ⟨hx, hb, hml, hown, hts⟩ (c_X0_byteOfGroup l D cB cI cZ g 0 ln) (va_cwS 3 hts gX0_symbolOf_X0_byteOfGroup rfl rfl rfl (by decide +kernel) ⟨Nat.le_of_ble_eq_true rfl, Nat.le_of_ble_eq_true rfl⟩) hE hK hP hD hS hA [] rfl (by decide) rfl hl.1 rfl (Nat.le_of_ble_eq_true rfl) dX0_symbolOf_26 ⟨Nat.zero_le _, Nat.zero_le _⟩) hP hS hA (fun H locs hP hS => ?_)
          refine lv_topi (fun x_9 ex_9 => ?_)
          refine lv_istore_n (lv' := [(2, .int x_9), (0, .int g), (1, .int ln)]) hx hb dX0_symbolOf_29 rfl hl (by decide) rfl (fun ls hl => ?_)
          refine lv_iload_n hx hb dX0_symbolOf_30 rfl (lv_at hl 0 rfl) ?_
          refine lv_iconst (v := (-1)) hx hb dX0_symbolOf_31 (by decide) ?_
          refine lv_icmp_eq (tgt := 37) hx hb dX0_symbolOf_32 (by decide) (fun c_10 => ?_) (fun c_10 => ?_)
          · refine lv_iload_n hx hb dX0_symbolOf_37 rfl (lv_at hl 1 rfl) ?_
            refine lv_iconst (v := 1) hx hb dX0_symbolOf_38 (by decide) ?_
            refine lv_iload_n hx hb dX0_symbolOf_39 rfl (lv_at hl 2 rfl) ?_
            refine kcall0 (krunS (As := [.int g, .int 1, .int ln]) (rest := []) ⟨hx, hb, hml, hown, hts⟩ (c_X0_byteOfGroup l D cB cI cZ g 1 ln) (va_cwS 3 hts gX0_symbolOf_X0_byteOfGroup rfl rfl rfl (by decide +kernel) ⟨Nat.le_of_ble_eq_true rfl, Nat.le_of_ble_eq_true rfl⟩) hE hK hP hD hS hA [] rfl (by decide) rfl hl.1 rfl (Nat.le_of_ble_eq_true rfl) dX0_symbolOf_40 ⟨Nat.zero_le _, Nat.zero_le _⟩) hP hS hA (fun H locs hP hS => ?_)
            refine lv_topi (fun x_11 ex_11 => ?_)
            refine lv_istore_n (lv' := [(3, .int x_11), (2, .int x_9), (0, .int g), (1, .int ln)]) hx hb dX0_symbolOf_43 rfl hl (by decide) rfl (fun ls hl => ?_)
            refine lv_iload_n hx hb dX0_symbolOf_44 rfl (lv_at hl 0 rfl) ?_
            refine lv_iconst (v := (-1)) hx hb dX0_symbolOf_45 (by decide) ?_
            refine lv_icmp_ne (tgt := 53) hx hb dX0_symbolOf_46 (by decide) (fun c_12 => ?_) (fun c_12 => ?_)
            · refine lv_iload_n hx hb dX0_symbolOf_53 rfl (lv_at hl 0 rfl) ?_
              refine lv_sipush (v := 256) hx hb dX0_symbolOf_54 (by decide) ?_
              refine lv_iadd hx hb dX0_symbolOf_57 ?_
              have hf : f_X0_symbolOf g ln = (x_11 + 256) := by simp only [f_X0_symbolOf, ↓letv_eq ex_9, ↓letv_eq ex_11, ↓if_neg c_1, ↓if_neg c_2, ↓if_neg c_3, ↓if_pos c_8, ↓if_pos c_10, ↓if_neg c_12]
              exact kreti hx hb hr hlocks hS hP hK hD dX0_symbolOf_58 hf.symm rfl
            · refine lv_iconst (v := (-1)) hx hb dX0_symbolOf_49 (by decide) ?_
              refine lv_goto (tgt := 58) hx hb dX0_symbolOf_50 (by decide) ?_
              have hf : f_X0_symbolOf g ln = (-1) := by simp only [f_X0_symbolOf, ↓letv_eq ex_9, ↓letv_eq ex_11, ↓if_neg c_1, ↓if_neg c_2, ↓if_neg c_3, ↓if_pos c_8, ↓if_pos c_10, ↓if_pos c_12]
              exact kreti hx hb hr hlocks hS hP hK hD dX0_symbolOf_58 hf.symm rfl
          · refine lv_iload_n hx hb dX0_symbolOf_35 rfl (lv_at hl 0 rfl) ?_
            have hf : f_X0_symbolOf g ln = x_9 := by simp only [f_X0_symbolOf, ↓letv_eq ex_9, ↓if_neg c_1, ↓if_neg c_2, ↓if_neg c_3, ↓if_pos c_8, ↓if_neg c_10]
            exact kreti hx hb hr hlocks hS hP hK hD dX0_symbolOf_36 hf.symm rfl
        · refine lv_iconst (v := (-1)) hx hb dX0_symbolOf_21 (by decide) ?_
          have hf : f_X0_symbolOf g ln = (-1) := by simp only [f_X0_symbolOf, ↓if_neg c_1, ↓if_neg c_2, ↓if_neg c_3, ↓if_neg c_8]
          exact kreti hx hb hr hlocks hS hP hK hD dX0_symbolOf_22 hf.symm rfl

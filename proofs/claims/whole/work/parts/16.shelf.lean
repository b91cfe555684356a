/-- a word of the shelf lies in its row -/
theorem in_word {s x w : Int32} (h : 0 ≤ s.toInt ∧ s.toInt < 41) (h1 : (0 : Int32).toInt ≤ x.toInt) (h2 : x.toInt < (300 : Int32).toInt) (e : w = s * 75 + (x >>> ((2 : Int32) &&& 31))) : vp_in w 3075 := by
  have z0 : (0 : Int32).toInt = 0 := rfl
  have z3 : (300 : Int32).toInt = 300 := rfl
  have z75 : (75 : Int32).toInt = 75 := rfl
  rw [z0] at h1
  rw [z3] at h2
  have a := pk_shr x ((2 : Int32) &&& 31) 2 (by decide)
  have b : x.toInt >>> 2 = x.toInt / 4 := by rw [Int.shiftRight_eq_div_pow]; rfl
  have d := i_mul s 75 (by rw [z75]; omega)
  rw [z75] at d
  have f := i_add (s * 75) (x >>> ((2 : Int32) &&& 31)) (by omega)
  rw [vp_in_iff, e]
  omega
theorem CtI.ofF {l : Launch} {y : MethodName} {ws ws' : List Cond} {rm : Room} {D : va_G} {ty : List (ClassId × FieldType)} {av : List Value} {r : Int32} {wc w1 : va_W} {cc : ByteArray} {maxL : Nat} {ret : Option FieldType} (hy : plainFor y = true) (hw : ws = Cond.code y cc maxL ret :: ws') (hlen : (lg_sl av).length ≤ maxL)
    (body : ∀ (p : Program) (e : Env) (s : State) (m : MethodId) (below : List Frame) (meth : Method) (c : Code) (A : Nat → Prop) (ls : Array Slot), p.tables.exec = Jvm.exec → c.code = cc → meth.sig.returnType = ret → c.maxLocals = maxL → s.vm.findClass y.cls = some m.cls → (∀ w ∈ ws, w.before av.toArray s = true) → meth.locks = false → ev A s s.heap → va_P D vwCl wc s.heap → va_K D vwCl ty s → va_D A wc → (∀ q, s.heap.size ≤ q → A q) → va_S A s.heap s.heap [] → lv_has ls maxL (lv_args 0 av) →
      W p l e rm s m av.toArray below meth c s.heap [] 0 0 (MQ below (kQi D ty A r w1) av.toArray s 0 0 A) (F0 m 0 ls [])) : CtI l y ws rm D ty av r wc w1 := by
  intro sz
  refine va_MetF (cc := cc) (maxL := maxL) (ret := ret) hy hw ?_
  intro p e s m args below meth c s₁ B hml hv
  obtain ⟨rfl, hsz, hE, hP, hK, hD0⟩ := hv
  subst hsz
  rw [lg_entry_eq]
  exact body p e s m below meth c _ _ B.exec B.bytes B.returns hml (findClass_of_methodNamed B.named) (atoms_spec (ws := ws) B.pre) B.notSynchronized hE hP hK (hD0.self (sz := s.heap.size)) (fun q h => Or.inr h) va_S.rf (lv_entry av hlen)

abbrev rmJ9_floorMod_7cf53 : Room := { frames := 0, cells := 0, slots := 0, locals := 0 }
def f_J9_floorMod_7cf53 (x : Int32) (y : Int32) : Int32 := (letv ((x - x / y * y)) (fun x_1 => (if (0 : Int32) ≤ (x ^^^ y) then x_1 else (if x_1 = 0 then x_1 else (x_1 + y)))))
set_option maxHeartbeats 4000000 in
set_option maxRecDepth 100000 in
theorem c_J9_floorMod_7cf53 (l : Launch) (D : va_G) (cB cI cZ : ClassId) (x : Int32) (y : Int32) (hy : ¬ y = 0) : CtI l yJ9_floorMod_7cf53 wsJ9_floorMod_7cf53 rmJ9_floorMod_7cf53 D (tyv cB cI cZ) [.int x, .int y] (f_J9_floorMod_7cf53 x y) ([]) ([]) := by
  refine CtI.ofF (cc := cJ9_floorMod_7cf53) (maxL := 3) (ret := (some .int)) (by decide +kernel) rfl (Nat.le_of_ble_eq_true rfl) ?_
  intro p e s m below meth c A ls hx hb hr hml hown hts hlocks hE hP hK hD hA hS hl
  have hown : s.vm.findClass RJ9 = some m.cls := hown
  have hl : lv_has ls 3 [(0, .int x), (1, .int y)] := hl
  refine lv_iload_n hx hb dJ9_floorMod_7cf53_0 rfl (lv_at hl 0 rfl) ?_
  refine lv_iload_n hx hb dJ9_floorMod_7cf53_1 rfl (lv_at hl 1 rfl) ?_
  refine lv_irem hx hb dJ9_floorMod_7cf53_2 hy ?_
  refine lv_topi (fun x_1 ex_1 => ?_)
  refine lv_istore_n (lv' := [(2, .int x_1), (0, .int x), (1, .int y)]) hx hb dJ9_floorMod_7cf53_3 rfl hl (by decide) rfl (fun ls hl => ?_)
  refine lv_iload_n hx hb dJ9_floorMod_7cf53_4 rfl (lv_at hl 1 rfl) ?_
  refine lv_iload_n hx hb dJ9_floorMod_7cf53_5 rfl (lv_at hl 2 rfl) ?_
  refine lv_ixor hx hb dJ9_floorMod_7cf53_6 ?_
  refine lv_if_ge (tgt := 18) hx hb dJ9_floorMod_7cf53_7 (by decide) (fun c_2 => ?_) (fun c_2 => ?_)
  · refine lv_iload_n hx hb dJ9_floorMod_7cf53_18 rfl (lv_at hl 0 rfl) ?_
    have hf : f_J9_floorMod_7cf53 x y = x_1 := by simp only [f_J9_floorMod_7cf53, ↓letv_eq ex_1, ↓if_pos c_2]
    exact kreti hx hb hr hlocks hS hP hK hD dJ9_floorMod_7cf53_19 hf.symm rfl
  · refine lv_iload_n hx hb dJ9_floorMod_7cf53_10 rfl (lv_at hl 0 rfl) ?_
    refine lv_if_eq (tgt := 18) hx hb dJ9_floorMod_7cf53_11 (by decide) (fun c_3 => ?_) (fun c_3 => ?_)
    · refine lv_iload_n hx hb dJ9_floorMod_7cf53_18 rfl (lv_at hl 0 rfl) ?_
      have hf : f_J9_floorMod_7cf53 x y = x_1 := by simp only [f_J9_floorMod_7cf53, ↓letv_eq ex_1, ↓if_neg c_2, ↓if_pos c_3]
      exact kreti hx hb hr hlocks hS hP hK hD dJ9_floorMod_7cf53_19 hf.symm rfl
    · refine lv_iload_n hx hb dJ9_floorMod_7cf53_14 rfl (lv_at hl 0 rfl) ?_
      refine lv_iload_n hx hb dJ9_floorMod_7cf53_15 rfl (lv_at hl 2 rfl) ?_
      refine lv_iadd hx hb dJ9_floorMod_7cf53_16 ?_
      have hf : f_J9_floorMod_7cf53 x y = (x_1 + y) := by simp only [f_J9_floorMod_7cf53, ↓letv_eq ex_1, ↓if_neg c_2, ↓if_neg c_3]
      exact kreti hx hb hr hlocks hS hP hK hD dJ9_floorMod_7cf53_17 hf.symm rfl

/-- the slot in use is one of the 41 -/
def shOK (S : ShS) : Prop := 0 ≤ S.2.2.2.1.toInt ∧ S.2.2.2.1.toInt < 41
theorem fm_mod (x : Int32) : (f_J9_floorMod_7cf53 x 41).toInt = x.toInt % 41 := by
  have z : (41 : Int32).toInt = 41 := rfl
  have hb := i_bnd x
  have hd : (x / 41).toInt = x.toInt.tdiv 41 := Int32.toInt_div_of_ne_right x 41 (by decide)
  have hx : (0 ≤ x ^^^ 41) ↔ 0 ≤ x.toInt := by
    rw [Int32.le_iff_toInt_le, Int32.toInt_zero]
    have a : (x ^^^ 41).toInt = (x.toBitVec ^^^ 41#32).toInt := rfl
    have b := BitVec.msb_eq_toInt (x := x.toBitVec ^^^ 41#32)
    have c := BitVec.msb_eq_toInt (x := x.toBitVec)
    rw [BitVec.msb_xor] at b
    have d : (41#32).msb = false := by decide
    rw [d, Bool.xor_false, c] at b
    have e := decide_eq_decide.mp b
    have f : x.toInt = x.toBitVec.toInt := rfl
    rw [a, f]
    omega
  by_cases h : 0 ≤ x.toInt
  · have ht : x.toInt.tdiv 41 = x.toInt / 41 := Int.tdiv_eq_ediv_of_nonneg h
    have hm := i_mul (x / 41) 41 (by rw [z, hd, ht]; omega)
    have hs := i_sub x (x / 41 * 41) (by rw [hm, z, hd, ht]; omega)
    have hc : 0 ≤ x ^^^ 41 := hx.mpr h
    simp only [f_J9_floorMod_7cf53, letv, if_pos hc]
    rw [hs, hm, z, hd, ht]
    omega
  · have ht : x.toInt.tdiv 41 = -((-x.toInt) / 41) := by
      have q := Int.neg_tdiv (-x.toInt) 41
      rw [Int.neg_neg] at q
      rw [q, Int.tdiv_eq_ediv_of_nonneg (by omega)]
    have hm := i_mul (x / 41) 41 (by rw [z, hd, ht]; omega)
    have hs := i_sub x (x / 41 * 41) (by rw [hm, z, hd, ht]; omega)
    have hc : ¬ 0 ≤ x ^^^ 41 := fun q => h (hx.mp q)
    simp only [f_J9_floorMod_7cf53, letv, if_neg hc]
    by_cases h0 : x - x / 41 * 41 = 0
    · rw [if_pos h0, h0]
      have q := congrArg Int32.toInt h0
      rw [hs, hm, z, hd, ht] at q
      have z0 : (0 : Int32).toInt = 0 := rfl
      rw [z0] at q ⊢
      omega
    · rw [if_neg h0]
      have h1 : (x - x / 41 * 41).toInt ≠ 0 := fun q => h0 (i_eq (by rw [q]; rfl))
      have ha := i_add (x - x / 41 * 41) 41 (by rw [hs, hm, z, hd, ht]; omega)
      rw [hs, hm, z, hd, ht] at h1
      rw [ha, hs, hm, z, hd, ht]
      omega
theorem fm_41 (x : Int32) : 0 ≤ (f_J9_floorMod_7cf53 x 41).toInt ∧ (f_J9_floorMod_7cf53 x 41).toInt < 41 := by
  rw [fm_mod]
  omega

abbrev rmX1_finish : Room := { frames := 0, cells := 0, slots := 0, locals := 0 }
def f_X1_finish (a : Int32) (S : ShS) : ShS := match S with | (s_0, s_1, s_2, s_3, s_4, s_5, s_6, s_7, s_8) => (if s_3 < 0 then (s_0, s_1, s_2, s_3, s_4, s_5, s_6, s_7, s_8) else (if s_3 < 41 then (if (41 : Int32) ≤ (s_3 + 1) then (if a = 0 then (if (40 : Int32) ≤ s_4 then (s_0, s_1, (upd s_2 (s_3).toNatClampNeg ((vp_nar .boolean a))), 0, s_4, 0, s_6, (s_7 + 1), s_8) else (s_0, s_1, (upd s_2 (s_3).toNatClampNeg ((vp_nar .boolean a))), 0, (s_4 + 1), 0, s_6, (s_7 + 1), s_8)) else (if (40 : Int32) ≤ s_4 then (s_0, s_1, (upd s_2 (s_3).toNatClampNeg ((vp_nar .boolean a))), 0, s_4, 0, s_6, (s_7 + 1), (s_8 + 1)) else (s_0, s_1, (upd s_2 (s_3).toNatClampNeg ((vp_nar .boolean a))), 0, (s_4 + 1), 0, s_6, (s_7 + 1), (s_8 + 1)))) else (if a = 0 then (if (40 : Int32) ≤ s_4 then (s_0, s_1, (upd s_2 (s_3).toNatClampNeg ((vp_nar .boolean a))), (s_3 + 1), s_4, 0, s_6, (s_7 + 1), s_8) else (s_0, s_1, (upd s_2 (s_3).toNatClampNeg ((vp_nar .boolean a))), (s_3 + 1), (s_4 + 1), 0, s_6, (s_7 + 1), s_8)) else (if (40 : Int32) ≤ s_4 then (s_0, s_1, (upd s_2 (s_3).toNatClampNeg ((vp_nar .boolean a))), (s_3 + 1), s_4, 0, s_6, (s_7 + 1), (s_8 + 1)) else (s_0, s_1, (upd s_2 (s_3).toNatClampNeg ((vp_nar .boolean a))), (s_3 + 1), (s_4 + 1), 0, s_6, (s_7 + 1), (s_8 + 1))))) else (s_0, s_1, s_2, s_3, s_4, s_5, s_6, s_7, s_8)))
set_option maxHeartbeats 4000000 in
set_option maxRecDepth 100000 in
theorem c_X1_finish (l : Launch) (D : va_G) (cB cI cZ : ClassId) (h ha0 ha1 ha2 : Nat) (S : ShS) (a : Int32) (hok : shOK S) : CtV l yX1_finish wsX1_finish rmX1_finish D (tyv cB cI cZ) [.ref h, .int a] (wSh cB cI cZ h ha0 ha1 ha2 S) (wSh cB cI cZ h ha0 ha1 ha2 ((f_X1_finish a S))) := by
  obtain ⟨s_0, s_1, s_2, s_3, s_4, s_5, s_6, s_7, s_8⟩ := S
  refine CtV.of (cc := cX1_finish) (maxL := 2) (ret := none) (by decide +kernel) rfl (Nat.le_of_ble_eq_true rfl) ?_
  intro p e s m below meth c A ls hx hb hr hml hown hts hlocks hE hP hK hD hA hS hl
  have hown : s.vm.findClass RX1 = some m.cls := hown
  have hl : lv_has ls 2 [(0, .ref h), (1, .int a)] := hl
  have hP : va_P D vwCl [(h, .inr (0, [.ref ha0, .ref ha1, .ref ha2, .int s_3, .int s_4, .int s_5, .int s_6, .int s_7, .int s_8])), (ha0, .inl (cI, 3075, .inl s_0)), (ha1, .inl (cI, 41, .inl s_1)), (ha2, .inl (cZ, 41, .inl s_2))] s.heap := hP
  have hD : va_D A [(h, .inr (0, [.ref ha0, .ref ha1, .ref ha2, .int s_3, .int s_4, .int s_5, .int s_6, .int s_7, .int s_8])), (ha0, .inl (cI, 3075, .inl s_0)), (ha1, .inl (cI, 41, .inl s_1)), (ha2, .inl (cZ, 41, .inl s_2))] := hD
  have hiX1 : ∀ w ∈ wsX10, w ∈ wsX1_finish := by decide +kernel
  have k18 := hts (.fieldLink RX1 18 "CodedGroups$FrameShelf" "wholes" "[Z") (by decide +kernel)
  have k22 := hts (.fieldLink RX1 22 "CodedGroups$FrameShelf" "slot" "I") (by decide +kernel)
  have k26 := hts (.fieldLink RX1 26 "CodedGroups$FrameShelf" "kept" "I") (by decide +kernel)
  have k29 := hts (.fieldLink RX1 29 "CodedGroups$FrameShelf" "state" "I") (by decide +kernel)
  have k36 := hts (.fieldLink RX1 36 "CodedGroups$FrameShelf" "ended" "I") (by decide +kernel)
  have k39 := hts (.fieldLink RX1 39 "CodedGroups$FrameShelf" "endedWhole" "I") (by decide +kernel)
  refine lv_aload_n hx hb dX1_finish_0 rfl (lv_at hl 0 rfl) ?_
  refine va_get (D := D) (ci := 0) (v := .int s_3) (C := RX1) (T := TX1) (N := 9) hx hb hts hiX1 hown hK hP 0 rfl rfl 3 (by decide) k22 (fun _ h9 => h9) rfl dX1_finish_1 ?_
  refine lv_if_lt (tgt := 16) hx hb dX1_finish_4 (by decide) (fun c_1 => ?_) (fun c_1 => ?_)
  · have hf : f_X1_finish a (s_0, s_1, s_2, s_3, s_4, s_5, s_6, s_7, s_8) = (s_0, s_1, s_2, s_3, s_4, s_5, s_6, s_7, s_8) := by simp only [f_X1_finish, ↓if_pos c_1]
    exact kretv hx hb hr hlocks hS hP hK hD dX1_finish_16 (congrArg (fun u : ShS => wSh cB cI cZ h ha0 ha1 ha2 u) hf).symm
  · refine lv_aload_n hx hb dX1_finish_7 rfl (lv_at hl 0 rfl) ?_
    refine va_get (D := D) (ci := 0) (v := .int s_3) (C := RX1) (T := TX1) (N := 9) hx hb hts hiX1 hown hK hP 0 rfl rfl 3 (by decide) k22 (fun _ h9 => h9) rfl dX1_finish_8 ?_
    refine lv_bipush (v := 41) hx hb dX1_finish_11 (by decide) ?_
    refine lv_icmp_lt (tgt := 17) hx hb dX1_finish_13 (by decide) (fun c_2 => ?_) (fun c_2 => ?_)
    · refine lv_aload_n hx hb dX1_finish_17 rfl (lv_at hl 0 rfl) ?_
      refine va_get (D := D) (ci := 0) (v := .ref ha2) (C := RX1) (T := TX1) (N := 9) hx hb hts hiX1 hown hK hP 0 rfl rfl 2 (by decide) k18 (fun _ h9 => h9) rfl dX1_finish_18 ?_
      refine lv_aload_n hx hb dX1_finish_21 rfl (lv_at hl 0 rfl) ?_
      refine va_get (D := D) (ci := 0) (v := .int s_3) (C := RX1) (T := TX1) (N := 9) hx hb hts hiX1 hown hK hP 0 rfl rfl 3 (by decide) k22 (fun _ h9 => h9) rfl dX1_finish_22 ?_
      refine lv_iload_n hx hb dX1_finish_25 rfl (lv_at hl 1 rfl) ?_
      have h_3 : vp_in s_3 41 := vp_in_iff.mpr hok
      refine va_zast hx hb hK hP hD hS 3 2 rfl rfl h_3 dX1_finish_26 (fun H locs hP hD hS => ?_)
      have hP : va_P D vwCl [(h, .inr (0, [.ref ha0, .ref ha1, .ref ha2, .int s_3, .int s_4, .int s_5, .int s_6, .int s_7, .int s_8])), (ha0, .inl (cI, 3075, .inl s_0)), (ha1, .inl (cI, 41, .inl s_1)), (ha2, .inl (cZ, 41, .inl (upd s_2 (s_3).toNatClampNeg ((vp_nar .boolean a)))))] H := hP
      have hD : va_D A [(h, .inr (0, [.ref ha0, .ref ha1, .ref ha2, .int s_3, .int s_4, .int s_5, .int s_6, .int s_7, .int s_8])), (ha0, .inl (cI, 3075, .inl s_0)), (ha1, .inl (cI, 41, .inl s_1)), (ha2, .inl (cZ, 41, .inl (upd s_2 (s_3).toNatClampNeg ((vp_nar .boolean a)))))] := hD
      refine lv_aload_n hx hb dX1_finish_27 rfl (lv_at hl 0 rfl) ?_
      refine lv_aload_n hx hb dX1_finish_28 rfl (lv_at hl 0 rfl) ?_
      refine va_get (D := D) (ci := 0) (v := .int s_3) (C := RX1) (T := TX1) (N := 9) hx hb hts hiX1 hown hK hP 0 rfl rfl 3 (by decide) k22 (fun _ h9 => h9) rfl dX1_finish_29 ?_
      refine lv_iconst (v := 1) hx hb dX1_finish_32 (by decide) ?_
      refine lv_iadd hx hb dX1_finish_33 ?_
      refine lv_bipush (v := 41) hx hb dX1_finish_34 (by decide) ?_
      refine lv_icmp_ge (tgt := 48) hx hb dX1_finish_36 (by decide) (fun c_4 => ?_) (fun c_4 => ?_)
      · refine lv_iconst (v := 0) hx hb dX1_finish_48 (by decide) ?_
        refine va_put (D := D) (ci := 0) (v := .int 0) (ty := .int) (C := RX1) (T := TX1) (N := 9) hx hb hts hiX1 tyX1 tyX1_ok nmX1 hown hK hP hD hS 0 rfl rfl 3 (by decide) k22 (fun _ h9 => h9) rfl (by decide +kernel) rfl rfl (Nat.le_of_ble_eq_true rfl) dX1_finish_49 (fun H locs hP hD hS => ?_)
        have hP : va_P D vwCl [(h, .inr (0, [.ref ha0, .ref ha1, .ref ha2, .int 0, .int s_4, .int s_5, .int s_6, .int s_7, .int s_8])), (ha0, .inl (cI, 3075, .inl s_0)), (ha1, .inl (cI, 41, .inl s_1)), (ha2, .inl (cZ, 41, .inl (upd s_2 (s_3).toNatClampNeg ((vp_nar .boolean a)))))] H := hP
        have hD : va_D A [(h, .inr (0, [.ref ha0, .ref ha1, .ref ha2, .int 0, .int s_4, .int s_5, .int s_6, .int s_7, .int s_8])), (ha0, .inl (cI, 3075, .inl s_0)), (ha1, .inl (cI, 41, .inl s_1)), (ha2, .inl (cZ, 41, .inl (upd s_2 (s_3).toNatClampNeg ((vp_nar .boolean a)))))] := hD
        refine lv_aload_n hx hb dX1_finish_52 rfl (lv_at hl 0 rfl) ?_
        refine lv_iconst (v := 0) hx hb dX1_finish_53 (by decide) ?_
        refine va_put (D := D) (ci := 0) (v := .int 0) (ty := .int) (C := RX1) (T := TX1) (N := 9) hx hb hts hiX1 tyX1 tyX1_ok nmX1 hown hK hP hD hS 0 rfl rfl 5 (by decide) k29 (fun _ h9 => h9) rfl (by decide +kernel) rfl rfl (Nat.le_of_ble_eq_true rfl) dX1_finish_54 (fun H locs hP hD hS => ?_)
        have hP : va_P D vwCl [(h, .inr (0, [.ref ha0, .ref ha1, .ref ha2, .int 0, .int s_4, .int 0, .int s_6, .int s_7, .int s_8])), (ha0, .inl (cI, 3075, .inl s_0)), (ha1, .inl (cI, 41, .inl s_1)), (ha2, .inl (cZ, 41, .inl (upd s_2 (s_3).toNatClampNeg ((vp_nar .boolean a)))))] H := hP
        have hD : va_D A [(h, .inr (0, [.ref ha0, .ref ha1, .ref ha2, .int 0, .int s_4, .int 0, .int s_6, .int s_7, .int s_8])), (ha0, .inl (cI, 3075, .inl s_0)), (ha1, .inl (cI, 41, .inl s_1)), (ha2, .inl (cZ, 41, .inl (upd s_2 (s_3).toNatClampNeg ((vp_nar .boolean a)))))] := hD
        refine lv_aload_n hx hb dX1_finish_57 rfl (lv_at hl 0 rfl) ?_
        refine lv_dup hx hb dX1_finish_58 rfl ?_
        refine va_get (D := D) (ci := 0) (v := .int s_7) (C := RX1) (T := TX1) (N := 9) hx hb hts hiX1 hown hK hP 0 rfl rfl 7 (by decide) k36 (fun _ h9 => h9) rfl dX1_finish_59 ?_
        refine lv_iconst (v := 1) hx hb dX1_finish_62 (by decide) ?_
        refine lv_iadd hx hb dX1_finish_63 ?_
        refine va_put (D := D) (ci := 0) (v := .int (s_7 + 1)) (ty := .int) (C := RX1) (T := TX1) (N := 9) hx hb hts hiX1 tyX1 tyX1_ok nmX1 hown hK hP hD hS 0 rfl rfl 7 (by decide) k36 (fun _ h9 => h9) rfl (by decide +kernel) rfl rfl (Nat.le_of_ble_eq_true rfl) dX1_finish_64 (fun H locs hP hD hS => ?_)
        have hP : va_P D vwCl [(h, .inr (0, [.ref ha0, .ref ha1, .ref ha2, .int 0, .int s_4, .int 0, .int s_6, .int (s_7 + 1), .int s_8])), (ha0, .inl (cI, 3075, .inl s_0)), (ha1, .inl (cI, 41, .inl s_1)), (ha2, .inl (cZ, 41, .inl (upd s_2 (s_3).toNatClampNeg ((vp_nar .boolean a)))))] H := hP
        have hD : va_D A [(h, .inr (0, [.ref ha0, .ref ha1, .ref ha2, .int 0, .int s_4, .int 0, .int s_6, .int (s_7 + 1), .int s_8])), (ha0, .inl (cI, 3075, .inl s_0)), (ha1, .inl (cI, 41, .inl s_1)), (ha2, .inl (cZ, 41, .inl (upd s_2 (s_3).toNatClampNeg ((vp_nar .boolean a)))))] := hD
        refine lv_iload_n hx hb dX1_finish_67 rfl (lv_at hl 1 rfl) ?_
        refine lv_if_eq (tgt := 81) hx hb dX1_finish_68 (by decide) (fun c_5 => ?_) (fun c_5 => ?_)
        · refine lv_aload_n hx hb dX1_finish_81 rfl (lv_at hl 0 rfl) ?_
          refine va_get (D := D) (ci := 0) (v := .int s_4) (C := RX1) (T := TX1) (N := 9) hx hb hts hiX1 hown hK hP 0 rfl rfl 4 (by decide) k26 (fun _ h9 => h9) rfl dX1_finish_82 ?_
          refine lv_bipush (v := 40) hx hb dX1_finish_85 (by decide) ?_
          refine lv_icmp_ge (tgt := 100) hx hb dX1_finish_87 (by decide) (fun c_6 => ?_) (fun c_6 => ?_)
          · have hf : f_X1_finish a (s_0, s_1, s_2, s_3, s_4, s_5, s_6, s_7, s_8) = (s_0, s_1, (upd s_2 (s_3).toNatClampNeg ((vp_nar .boolean a))), 0, s_4, 0, s_6, (s_7 + 1), s_8) := by simp only [f_X1_finish, ↓if_neg c_1, ↓if_pos c_2, ↓if_pos c_4, ↓if_pos c_5, ↓if_pos c_6]
            exact kretv hx hb hr hlocks hS hP hK hD dX1_finish_100 (congrArg (fun u : ShS => wSh cB cI cZ h ha0 ha1 ha2 u) hf).symm
          · refine lv_aload_n hx hb dX1_finish_90 rfl (lv_at hl 0 rfl) ?_
            refine lv_dup hx hb dX1_finish_91 rfl ?_
            refine va_get (D := D) (ci := 0) (v := .int s_4) (C := RX1) (T := TX1) (N := 9) hx hb hts hiX1 hown hK hP 0 rfl rfl 4 (by decide) k26 (fun _ h9 => h9) rfl dX1_finish_92 ?_
            refine lv_iconst (v := 1) hx hb dX1_finish_95 (by decide) ?_
            refine lv_iadd hx hb dX1_finish_96 ?_
            refine va_put (D := D) (ci := 0) (v := .int (s_4 + 1)) (ty := .int) (C := RX1) (T := TX1) (N := 9) hx hb hts hiX1 tyX1 tyX1_ok nmX1 hown hK hP hD hS 0 rfl rfl 4 (by decide) k26 (fun _ h9 => h9) rfl (by decide +kernel) rfl rfl (Nat.le_of_ble_eq_true rfl) dX1_finish_97 (fun H locs hP hD hS => ?_)
            have hP : va_P D vwCl [(h, .inr (0, [.ref ha0, .ref ha1, .ref ha2, .int 0, .int (s_4 + 1), .int 0, .int s_6, .int (s_7 + 1), .int s_8])), (ha0, .inl (cI, 3075, .inl s_0)), (ha1, .inl (cI, 41, .inl s_1)), (ha2, .inl (cZ, 41, .inl (upd s_2 (s_3).toNatClampNeg ((vp_nar .boolean a)))))] H := hP
            have hD : va_D A [(h, .inr (0, [.ref ha0, .ref ha1, .ref ha2, .int 0, .int (s_4 + 1), .int 0, .int s_6, .int (s_7 + 1), .int s_8])), (ha0, .inl (cI, 3075, .inl s_0)), (ha1, .inl (cI, 41, .inl s_1)), (ha2, .inl (cZ, 41, .inl (upd s_2 (s_3).toNatClampNeg ((vp_nar .boolean a)))))] := hD
            have hf : f_X1_finish a (s_0, s_1, s_2, s_3, s_4, s_5, s_6, s_7, s_8) = (s_0, s_1, (upd s_2 (s_3).toNatClampNeg ((vp_nar .boolean a))), 0, (s_4 + 1), 0, s_6, (s_7 + 1), s_8) := by simp only [f_X1_finish, ↓if_neg c_1, ↓if_pos c_2, ↓if_pos c_4, ↓if_pos c_5, ↓if_neg c_6]
            exact kretv hx hb hr hlocks hS hP hK hD dX1_finish_100 (congrArg (fun u : ShS => wSh cB cI cZ h ha0 ha1 ha2 u) hf).symm
        · refine lv_aload_n hx hb dX1_finish_71 rfl (lv_at hl 0 rfl) ?_
          refine lv_dup hx hb dX1_finish_72 rfl ?_
          refine va_get (D := D) (ci := 0) (v := .int s_8) (C := RX1) (T := TX1) (N := 9) hx hb hts hiX1 hown hK hP 0 rfl rfl 8 (by decide) k39 (fun _ h9 => h9) rfl dX1_finish_73 ?_
          refine lv_iconst (v := 1) hx hb dX1_finish_76 (by decide) ?_
          refine lv_iadd hx hb dX1_finish_77 ?_
          refine va_put (D := D) (ci := 0) (v := .int (s_8 + 1)) (ty := .int) (C := RX1) (T := TX1) (N := 9) hx hb hts hiX1 tyX1 tyX1_ok nmX1 hown hK hP hD hS 0 rfl rfl 8 (by decide) k39 (fun _ h9 => h9) rfl (by decide +kernel) rfl rfl (Nat.le_of_ble_eq_true rfl) dX1_finish_78 (fun H locs hP hD hS => ?_)
          have hP : va_P D vwCl [(h, .inr (0, [.ref ha0, .ref ha1, .ref ha2, .int 0, .int s_4, .int 0, .int s_6, .int (s_7 + 1), .int (s_8 + 1)])), (ha0, .inl (cI, 3075, .inl s_0)), (ha1, .inl (cI, 41, .inl s_1)), (ha2, .inl (cZ, 41, .inl (upd s_2 (s_3).toNatClampNeg ((vp_nar .boolean a)))))] H := hP
          have hD : va_D A [(h, .inr (0, [.ref ha0, .ref ha1, .ref ha2, .int 0, .int s_4, .int 0, .int s_6, .int (s_7 + 1), .int (s_8 + 1)])), (ha0, .inl (cI, 3075, .inl s_0)), (ha1, .inl (cI, 41, .inl s_1)), (ha2, .inl (cZ, 41, .inl (upd s_2 (s_3).toNatClampNeg ((vp_nar .boolean a)))))] := hD
          refine lv_aload_n hx hb dX1_finish_81 rfl (lv_at hl 0 rfl) ?_
          refine va_get (D := D) (ci := 0) (v := .int s_4) (C := RX1) (T := TX1) (N := 9) hx hb hts hiX1 hown hK hP 0 rfl rfl 4 (by decide) k26 (fun _ h9 => h9) rfl dX1_finish_82 ?_
          refine lv_bipush (v := 40) hx hb dX1_finish_85 (by decide) ?_
          refine lv_icmp_ge (tgt := 100) hx hb dX1_finish_87 (by decide) (fun c_7 => ?_) (fun c_7 => ?_)
          · have hf : f_X1_finish a (s_0, s_1, s_2, s_3, s_4, s_5, s_6, s_7, s_8) = (s_0, s_1, (upd s_2 (s_3).toNatClampNeg ((vp_nar .boolean a))), 0, s_4, 0, s_6, (s_7 + 1), (s_8 + 1)) := by simp only [f_X1_finish, ↓if_neg c_1, ↓if_pos c_2, ↓if_pos c_4, ↓if_neg c_5, ↓if_pos c_7]
            exact kretv hx hb hr hlocks hS hP hK hD dX1_finish_100 (congrArg (fun u : ShS => wSh cB cI cZ h ha0 ha1 ha2 u) hf).symm
          · refine lv_aload_n hx hb dX1_finish_90 rfl (lv_at hl 0 rfl) ?_
            refine lv_dup hx hb dX1_finish_91 rfl ?_
            refine va_get (D := D) (ci := 0) (v := .int s_4) (C := RX1) (T := TX1) (N := 9) hx hb hts hiX1 hown hK hP 0 rfl rfl 4 (by decide) k26 (fun _ h9 => h9) rfl dX1_finish_92 ?_
            refine lv_iconst (v := 1) hx hb dX1_finish_95 (by decide) ?_
            refine lv_iadd hx hb dX1_finish_96 ?_
            refine va_put (D := D) (ci := 0) (v := .int (s_4 + 1)) (ty := .int) (C := RX1) (T := TX1) (N := 9) hx hb hts hiX1 tyX1 tyX1_ok nmX1 hown hK hP hD hS 0 rfl rfl 4 (by decide) k26 (fun _ h9 => h9) rfl (by decide +kernel) rfl rfl (Nat.le_of_ble_eq_true rfl) dX1_finish_97 (fun H locs hP hD hS => ?_)
            have hP : va_P D vwCl [(h, .inr (0, [.ref ha0, .ref ha1, .ref ha2, .int 0, .int (s_4 + 1), .int 0, .int s_6, .int (s_7 + 1), .int (s_8 + 1)])), (ha0, .inl (cI, 3075, .inl s_0)), (ha1, .inl (cI, 41, .inl s_1)), (ha2, .inl (cZ, 41, .inl (upd s_2 (s_3).toNatClampNeg ((vp_nar .boolean a)))))] H := hP
            have hD : va_D A [(h, .inr (0, [.ref ha0, .ref ha1, .ref ha2, .int 0, .int (s_4 + 1), .int 0, .int s_6, .int (s_7 + 1), .int (s_8 + 1)])), (ha0, .inl (cI, 3075, .inl s_0)), (ha1, .inl (cI, 41, .inl s_1)), (ha2, .inl (cZ, 41, .inl (upd s_2 (s_3).toNatClampNeg ((vp_nar .boolean a)))))] := hD
            have hf : f_X1_finish a (s_0, s_1, s_2, s_3, s_4, s_5, s_6, s_7, s_8) = (s_0, s_1, (upd s_2 (s_3).toNatClampNeg ((vp_nar .boolean a))), 0, (s_4 + 1), 0, s_6, (s_7 + 1), (s_8 + 1)) := by simp only [f_X1_finish, ↓if_neg c_1, ↓if_pos c_2, ↓if_pos c_4, ↓if_neg c_5, ↓if_neg c_7]
            exact kretv hx hb hr hlocks hS hP hK hD dX1_finish_100 (congrArg (fun u : ShS => wSh cB cI cZ h ha0 ha1 ha2 u) hf).symm
      · refine lv_aload_n hx hb dX1_finish_39 rfl (lv_at hl 0 rfl) ?_
        refine va_get (D := D) (ci := 0) (v := .int s_3) (C := RX1) (T := TX1) (N := 9) hx hb hts hiX1 hown hK hP 0 rfl rfl 3 (by decide) k22 (fun _ h9 => h9) rfl dX1_finish_40 ?_
        refine lv_iconst (v := 1) hx hb dX1_finish_43 (by decide) ?_
        refine lv_iadd hx hb dX1_finish_44 ?_
        refine lv_goto (tgt := 49) hx hb dX1_finish_45 (by decide) ?_
        refine va_put (D := D) (ci := 0) (v := .int (s_3 + 1)) (ty := .int) (C := RX1) (T := TX1) (N := 9) hx hb hts hiX1 tyX1 tyX1_ok nmX1 hown hK hP hD hS 0 rfl rfl 3 (by decide) k22 (fun _ h9 => h9) rfl (by decide +kernel) rfl rfl (Nat.le_of_ble_eq_true rfl) dX1_finish_49 (fun H locs hP hD hS => ?_)
        have hP : va_P D vwCl [(h, .inr (0, [.ref ha0, .ref ha1, .ref ha2, .int (s_3 + 1), .int s_4, .int s_5, .int s_6, .int s_7, .int s_8])), (ha0, .inl (cI, 3075, .inl s_0)), (ha1, .inl (cI, 41, .inl s_1)), (ha2, .inl (cZ, 41, .inl (upd s_2 (s_3).toNatClampNeg ((vp_nar .boolean a)))))] H := hP
        have hD : va_D A [(h, .inr (0, [.ref ha0, .ref ha1, .ref ha2, .int (s_3 + 1), .int s_4, .int s_5, .int s_6, .int s_7, .int s_8])), (ha0, .inl (cI, 3075, .inl s_0)), (ha1, .inl (cI, 41, .inl s_1)), (ha2, .inl (cZ, 41, .inl (upd s_2 (s_3).toNatClampNeg ((vp_nar .boolean a)))))] := hD
        refine lv_aload_n hx hb dX1_finish_52 rfl (lv_at hl 0 rfl) ?_
        refine lv_iconst (v := 0) hx hb dX1_finish_53 (by decide) ?_
        refine va_put (D := D) (ci := 0) (v := .int 0) (ty := .int) (C := RX1) (T := TX1) (N := 9) hx hb hts hiX1 tyX1 tyX1_ok nmX1 hown hK hP hD hS 0 rfl rfl 5 (by decide) k29 (fun _ h9 => h9) rfl (by decide +kernel) rfl rfl (Nat.le_of_ble_eq_true rfl) dX1_finish_54 (fun H locs hP hD hS => ?_)
        have hP : va_P D vwCl [(h, .inr (0, [.ref ha0, .ref ha1, .ref ha2, .int (s_3 + 1), .int s_4, .int 0, .int s_6, .int s_7, .int s_8])), (ha0, .inl (cI, 3075, .inl s_0)), (ha1, .inl (cI, 41, .inl s_1)), (ha2, .inl (cZ, 41, .inl (upd s_2 (s_3).toNatClampNeg ((vp_nar .boolean a)))))] H := hP
        have hD : va_D A [(h, .inr (0, [.ref ha0, .ref ha1, .ref ha2, .int (s_3 + 1), .int s_4, .int 0, .int s_6, .int s_7, .int s_8])), (ha0, .inl (cI, 3075, .inl s_0)), (ha1, .inl (cI, 41, .inl s_1)), (ha2, .inl (cZ, 41, .inl (upd s_2 (s_3).toNatClampNeg ((vp_nar .boolean a)))))] := hD
        refine lv_aload_n hx hb dX1_finish_57 rfl (lv_at hl 0 rfl) ?_
        refine lv_dup hx hb dX1_finish_58 rfl ?_
        refine va_get (D := D) (ci := 0) (v := .int s_7) (C := RX1) (T := TX1) (N := 9) hx hb hts hiX1 hown hK hP 0 rfl rfl 7 (by decide) k36 (fun _ h9 => h9) rfl dX1_finish_59 ?_
        refine lv_iconst (v := 1) hx hb dX1_finish_62 (by decide) ?_
        refine lv_iadd hx hb dX1_finish_63 ?_
        refine va_put (D := D) (ci := 0) (v := .int (s_7 + 1)) (ty := .int) (C := RX1) (T := TX1) (N := 9) hx hb hts hiX1 tyX1 tyX1_ok nmX1 hown hK hP hD hS 0 rfl rfl 7 (by decide) k36 (fun _ h9 => h9) rfl (by decide +kernel) rfl rfl (Nat.le_of_ble_eq_true rfl) dX1_finish_64 (fun H locs hP hD hS => ?_)
        have hP : va_P D vwCl [(h, .inr (0, [.ref ha0, .ref ha1, .ref ha2, .int (s_3 + 1), .int s_4, .int 0, .int s_6, .int (s_7 + 1), .int s_8])), (ha0, .inl (cI, 3075, .inl s_0)), (ha1, .inl (cI, 41, .inl s_1)), (ha2, .inl (cZ, 41, .inl (upd s_2 (s_3).toNatClampNeg ((vp_nar .boolean a)))))] H := hP
        have hD : va_D A [(h, .inr (0, [.ref ha0, .ref ha1, .ref ha2, .int (s_3 + 1), .int s_4, .int 0, .int s_6, .int (s_7 + 1), .int s_8])), (ha0, .inl (cI, 3075, .inl s_0)), (ha1, .inl (cI, 41, .inl s_1)), (ha2, .inl (cZ, 41, .inl (upd s_2 (s_3).toNatClampNeg ((vp_nar .boolean a)))))] := hD
        refine lv_iload_n hx hb dX1_finish_67 rfl (lv_at hl 1 rfl) ?_
        refine lv_if_eq (tgt := 81) hx hb dX1_finish_68 (by decide) (fun c_8 => ?_) (fun c_8 => ?_)
        · refine lv_aload_n hx hb dX1_finish_81 rfl (lv_at hl 0 rfl) ?_
          refine va_get (D := D) (ci := 0) (v := .int s_4) (C := RX1) (T := TX1) (N := 9) hx hb hts hiX1 hown hK hP 0 rfl rfl 4 (by decide) k26 (fun _ h9 => h9) rfl dX1_finish_82 ?_
          refine lv_bipush (v := 40) hx hb dX1_finish_85 (by decide) ?_
          refine lv_icmp_ge (tgt := 100) hx hb dX1_finish_87 (by decide) (fun c_9 => ?_) (fun c_9 => ?_)
          · have hf : f_X1_finish a (s_0, s_1, s_2, s_3, s_4, s_5, s_6, s_7, s_8) = (s_0, s_1, (upd s_2 (s_3).toNatClampNeg ((vp_nar .boolean a))), (s_3 + 1), s_4, 0, s_6, (s_7 + 1), s_8) := by simp only [f_X1_finish, ↓if_neg c_1, ↓if_pos c_2, ↓if_neg c_4, ↓if_pos c_8, ↓if_pos c_9]
            exact kretv hx hb hr hlocks hS hP hK hD dX1_finish_100 (congrArg (fun u : ShS => wSh cB cI cZ h ha0 ha1 ha2 u) hf).symm
          · refine lv_aload_n hx hb dX1_finish_90 rfl (lv_at hl 0 rfl) ?_
            refine lv_dup hx hb dX1_finish_91 rfl ?_
            refine va_get (D := D) (ci := 0) (v := .int s_4) (C := RX1) (T := TX1) (N := 9) hx hb hts hiX1 hown hK hP 0 rfl rfl 4 (by decide) k26 (fun _ h9 => h9) rfl dX1_finish_92 ?_
            refine lv_iconst (v := 1) hx hb dX1_finish_95 (by decide) ?_
            refine lv_iadd hx hb dX1_finish_96 ?_
            refine va_put (D := D) (ci := 0) (v := .int (s_4 + 1)) (ty := .int) (C := RX1) (T := TX1) (N := 9) hx hb hts hiX1 tyX1 tyX1_ok nmX1 hown hK hP hD hS 0 rfl rfl 4 (by decide) k26 (fun _ h9 => h9) rfl (by decide +kernel) rfl rfl (Nat.le_of_ble_eq_true rfl) dX1_finish_97 (fun H locs hP hD hS => ?_)
            have hP : va_P D vwCl [(h, .inr (0, [.ref ha0, .ref ha1, .ref ha2, .int (s_3 + 1), .int (s_4 + 1), .int 0, .int s_6, .int (s_7 + 1), .int s_8])), (ha0, .inl (cI, 3075, .inl s_0)), (ha1, .inl (cI, 41, .inl s_1)), (ha2, .inl (cZ, 41, .inl (upd s_2 (s_3).toNatClampNeg ((vp_nar .boolean a)))))] H := hP
            have hD : va_D A [(h, .inr (0, [.ref ha0, .ref ha1, .ref ha2, .int (s_3 + 1), .int (s_4 + 1), .int 0, .int s_6, .int (s_7 + 1), .int s_8])), (ha0, .inl (cI, 3075, .inl s_0)), (ha1, .inl (cI, 41, .inl s_1)), (ha2, .inl (cZ, 41, .inl (upd s_2 (s_3).toNatClampNeg ((vp_nar .boolean a)))))] := hD
            have hf : f_X1_finish a (s_0, s_1, s_2, s_3, s_4, s_5, s_6, s_7, s_8) = (s_0, s_1, (upd s_2 (s_3).toNatClampNeg ((vp_nar .boolean a))), (s_3 + 1), (s_4 + 1), 0, s_6, (s_7 + 1), s_8) := by simp only [f_X1_finish, ↓if_neg c_1, ↓if_pos c_2, ↓if_neg c_4, ↓if_pos c_8, ↓if_neg c_9]
            exact kretv hx hb hr hlocks hS hP hK hD dX1_finish_100 (congrArg (fun u : ShS => wSh cB cI cZ h ha0 ha1 ha2 u) hf).symm
        · refine lv_aload_n hx hb dX1_finish_71 rfl (lv_at hl 0 rfl) ?_
          refine lv_dup hx hb dX1_finish_72 rfl ?_
          refine va_get (D := D) (ci := 0) (v := .int s_8) (C := RX1) (T := TX1) (N := 9) hx hb hts hiX1 hown hK hP 0 rfl rfl 8 (by decide) k39 (fun _ h9 => h9) rfl dX1_finish_73 ?_
          refine lv_iconst (v := 1) hx hb dX1_finish_76 (by decide) ?_
          refine lv_iadd hx hb dX1_finish_77 ?_
          refine va_put (D := D) (ci := 0) (v := .int (s_8 + 1)) (ty := .int) (C := RX1) (T := TX1) (N := 9) hx hb hts hiX1 tyX1 tyX1_ok nmX1 hown hK hP hD hS 0 rfl rfl 8 (by decide) k39 (fun _ h9 => h9) rfl (by decide +kernel) rfl rfl (Nat.le_of_ble_eq_true rfl) dX1_finish_78 (fun H locs hP hD hS => ?_)
          have hP : va_P D vwCl [(h, .inr (0, [.ref ha0, .ref ha1, .ref ha2, .int (s_3 + 1), .int s_4, .int 0, .int s_6, .int (s_7 + 1), .int (s_8 + 1)])), (ha0, .inl (cI, 3075, .inl s_0)), (ha1, .inl (cI, 41, .inl s_1)), (ha2, .inl (cZ, 41, .inl (upd s_2 (s_3).toNatClampNeg ((vp_nar .boolean a)))))] H := hP
          have hD : va_D A [(h, .inr (0, [.ref ha0, .ref ha1, .ref ha2, .int (s_3 + 1), .int s_4, .int 0, .int s_6, .int (s_7 + 1), .int (s_8 + 1)])), (ha0, .inl (cI, 3075, .inl s_0)), (ha1, .inl (cI, 41, .inl s_1)), (ha2, .inl (cZ, 41, .inl (upd s_2 (s_3).toNatClampNeg ((vp_nar .boolean a)))))] := hD
          refine lv_aload_n hx hb dX1_finish_81 rfl (lv_at hl 0 rfl) ?_
          refine va_get (D := D) (ci := 0) (v := .int s_4) (C := RX1) (T := TX1) (N := 9) hx hb hts hiX1 hown hK hP 0 rfl rfl 4 (by decide) k26 (fun _ h9 => h9) rfl dX1_finish_82 ?_
          refine lv_bipush (v := 40) hx hb dX1_finish_85 (by decide) ?_
          refine lv_icmp_ge (tgt := 100) hx hb dX1_finish_87 (by decide) (fun c_10 => ?_) (fun c_10 => ?_)
          · have hf : f_X1_finish a (s_0, s_1, s_2, s_3, s_4, s_5, s_6, s_7, s_8) = (s_0, s_1, (upd s_2 (s_3).toNatClampNeg ((vp_nar .boolean a))), (s_3 + 1), s_4, 0, s_6, (s_7 + 1), (s_8 + 1)) := by simp only [f_X1_finish, ↓if_neg c_1, ↓if_pos c_2, ↓if_neg c_4, ↓if_neg c_8, ↓if_pos c_10]
            exact kretv hx hb hr hlocks hS hP hK hD dX1_finish_100 (congrArg (fun u : ShS => wSh cB cI cZ h ha0 ha1 ha2 u) hf).symm
          · refine lv_aload_n hx hb dX1_finish_90 rfl (lv_at hl 0 rfl) ?_
            refine lv_dup hx hb dX1_finish_91 rfl ?_
            refine va_get (D := D) (ci := 0) (v := .int s_4) (C := RX1) (T := TX1) (N := 9) hx hb hts hiX1 hown hK hP 0 rfl rfl 4 (by decide) k26 (fun _ h9 => h9) rfl dX1_finish_92 ?_
            refine lv_iconst (v := 1) hx hb dX1_finish_95 (by decide) ?_
            refine lv_iadd hx hb dX1_finish_96 ?_
            refine va_put (D := D) (ci := 0) (v := .int (s_4 + 1)) (ty := .int) (C := RX1) (T := TX1) (N := 9) hx hb hts hiX1 tyX1 tyX1_ok nmX1 hown hK hP hD hS 0 rfl rfl 4 (by decide) k26 (fun _ h9 => h9) rfl (by decide +kernel) rfl rfl (Nat.le_of_ble_eq_true rfl) dX1_finish_97 (fun H locs hP hD hS => ?_)
            have hP : va_P D vwCl [(h, .inr (0, [.ref ha0, .ref ha1, .ref ha2, .int (s_3 + 1), .int (s_4 + 1), .int 0, .int s_6, .int (s_7 + 1), .int (s_8 + 1)])), (ha0, .inl (cI, 3075, .inl s_0)), (ha1, .inl (cI, 41, .inl s_1)), (ha2, .inl (cZ, 41, .inl (upd s_2 (s_3).toNatClampNeg ((vp_nar .boolean a)))))] H := hP
            have hD : va_D A [(h, .inr (0, [.ref ha0, .ref ha1, .ref ha2, .int (s_3 + 1), .int (s_4 + 1), .int 0, .int s_6, .int (s_7 + 1), .int (s_8 + 1)])), (ha0, .inl (cI, 3075, .inl s_0)), (ha1, .inl (cI, 41, .inl s_1)), (ha2, .inl (cZ, 41, .inl (upd s_2 (s_3).toNatClampNeg ((vp_nar .boolean a)))))] := hD
            have hf : f_X1_finish a (s_0, s_1, s_2, s_3, s_4, s_5, s_6, s_7, s_8) = (s_0, s_1, (upd s_2 (s_3).toNatClampNeg ((vp_nar .boolean a))), (s_3 + 1), (s_4 + 1), 0, s_6, (s_7 + 1), (s_8 + 1)) := by simp only [f_X1_finish, ↓if_neg c_1, ↓if_pos c_2, ↓if_neg c_4, ↓if_neg c_8, ↓if_neg c_10]
            exact kretv hx hb hr hlocks hS hP hK hD dX1_finish_100 (congrArg (fun u : ShS => wSh cB cI cZ h ha0 ha1 ha2 u) hf).symm
    · have hf : f_X1_finish a (s_0, s_1, s_2, s_3, s_4, s_5, s_6, s_7, s_8) = (s_0, s_1, s_2, s_3, s_4, s_5, s_6, s_7, s_8) := by simp only [f_X1_finish, ↓if_neg c_1, ↓if_neg c_2]
      exact kretv hx hb hr hlocks hS hP hK hD dX1_finish_16 (congrArg (fun u : ShS => wSh cB cI cZ h ha0 ha1 ha2 u) hf).symm

theorem sh_finish {a : Int32} {S u : ShS} (e : f_X1_finish a S = u) (h : shOK S) : shOK u := by
  subst e
  obtain ⟨s_0, s_1, s_2, s_3, s_4, s_5, s_6, s_7, s_8⟩ := S
  have h : 0 ≤ s_3.toInt ∧ s_3.toInt < 41 := h
  have q := i_inc s_3 (by omega)
  have z : (41 : Int32).toInt = 41 := rfl
  have g1 : ¬ s_3 < 0 := fun w => by have q := i_lt w; have z : (0 : Int32).toInt = 0 := rfl; omega
  have g2 : s_3 < 41 := Int32.lt_iff_toInt_lt.mpr (by omega)
  by_cases c : 41 ≤ s_3 + 1
  · simp only [f_X1_finish, ↓if_neg g1, ↓if_pos g2, ↓if_pos c]
    repeat' split
    all_goals exact ⟨show 0 ≤ (0 : Int32).toInt by decide, show (0 : Int32).toInt < 41 by decide⟩
  · have e := i_nle c
    simp only [f_X1_finish, ↓if_neg g1, ↓if_pos g2, ↓if_neg c]
    repeat' split
    all_goals exact ⟨show 0 ≤ (s_3 + 1).toInt by omega, show (s_3 + 1).toInt < 41 by omega⟩

abbrev rmX1_lose : Room := { frames := 1, cells := 0, slots := 0, locals := 21 }
def f_X1_lose (S : ShS) : ShS := match S with | (s_0, s_1, s_2, s_3, s_4, s_5, s_6, s_7, s_8) => (if s_5 = 0 then (s_0, s_1, s_2, s_3, s_4, s_5, s_6, s_7, s_8) else (f_X1_finish 0 (s_0, s_1, s_2, s_3, s_4, s_5, s_6, s_7, s_8)))
set_option maxHeartbeats 4000000 in
set_option maxRecDepth 100000 in
theorem c_X1_lose (l : Launch) (D : va_G) (cB cI cZ : ClassId) (h ha0 ha1 ha2 : Nat) (S : ShS) (hok : shOK S) : CtV l yX1_lose wsX1_lose rmX1_lose D (tyv cB cI cZ) [.ref h] (wSh cB cI cZ h ha0 ha1 ha2 S) (wSh cB cI cZ h ha0 ha1 ha2 ((f_X1_lose S))) := by
  obtain ⟨s_0, s_1, s_2, s_3, s_4, s_5, s_6, s_7, s_8⟩ := S
  refine CtV.of (cc := cX1_lose) (maxL := 1) (ret := none) (by decide +kernel) rfl (Nat.le_of_ble_eq_true rfl) ?_
  intro p e s m below meth c A ls hx hb hr hml hown hts hlocks hE hP hK hD hA hS hl
  have hown : s.vm.findClass RX1 = some m.cls := hown
  have hl : lv_has ls 1 [(0, .ref h)] := hl
  have hP : va_P D vwCl [(h, .inr (0, [.ref ha0, .ref ha1, .ref ha2, .int s_3, .int s_4, .int s_5, .int s_6, .int s_7, .int s_8])), (ha0, .inl (cI, 3075, .inl s_0)), (ha1, .inl (cI, 41, .inl s_1)), (ha2, .inl (cZ, 41, .inl s_2))] s.heap := hP
  have hD : va_D A [(h, .inr (0, [.ref ha0, .ref ha1, .ref ha2, .int s_3, .int s_4, .int s_5, .int s_6, .int s_7, .int s_8])), (ha0, .inl (cI, 3075, .inl s_0)), (ha1, .inl (cI, 41, .inl s_1)), (ha2, .inl (cZ, 41, .inl s_2))] := hD
  have hiX1 : ∀ w ∈ wsX10, w ∈ wsX1_lose := by decide +kernel
  have k29 := hts (.fieldLink RX1 29 "CodedGroups$FrameShelf" "state" "I") (by decide +kernel)
  refine lv_aload_n hx hb dX1_lose_0 rfl (lv_at hl 0 rfl) ?_
  refine va_get (D := D) (ci := 0) (v := .int s_5) (C := RX1) (T := TX1) (N := 9) hx hb hts hiX1 hown hK hP 0 rfl rfl 5 (by decide) k29 (fun _ h9 => h9) rfl dX1_lose_1 ?_
  refine lv_if_eq (tgt := 12) hx hb dX1_lose_4 (by decide) (fun c_1 => ?_) (fun c_1 => ?_)
  · have hf : f_X1_lose (s_0, s_1, s_2, s_3, s_4, s_5, s_6, s_7, s_8) = (s_0, s_1, s_2, s_3, s_4, s_5, s_6, s_7, s_8) := by simp only [f_X1_lose, ↓if_pos c_1]
    exact kretv hx hb hr hlocks hS hP hK hD dX1_lose_12 (congrArg (fun u : ShS => wSh cB cI cZ h ha0 ha1 ha2 u) hf).symm
  · refine lv_aload_n hx hb dX1_lose_7 rfl (lv_at hl 0 rfl) ?_
    refine lv_iconst (v := 0) hx hb dX1_lose_8 (by decide) ?_
    refine kcallvU (f_X1_finish 0 (s_0, s_1, s_2, s_3, s_4, s_5, s_6, s_7, s_8)) (fun u : ShS => (wSh cB cI cZ h ha0 ha1 ha2 u)) (fun u : ShS => [(h, .inr (0, [.ref ha0, .ref ha1, .ref ha2, .int u.2.2.2.1, .int u.2.2.2.2.1, .int u.2.2.2.2.2.1, .int u.2.2.2.2.2.2.1, .int u.2.2.2.2.2.2.2.1, .int u.2.2.2.2.2.2.2.2])), (ha0, .inl (cI, 3075, .inl u.1)), (ha1, .inl (cI, 41, .inl u.2.1)), (ha2, .inl (cZ, 41, .inl u.2.2.1))]) (wr := []) (krunVv (As := [.int 0]) (rest := []) ⟨hx, hb, hml, hown, hts⟩ (c_X1_finish l D cB cI cZ h ha0 ha1 ha2 (s_0, s_1, s_2, s_3, s_4, s_5, s_6, s_7, s_8) 0 hok) (cwV 1 hts gX1_lose_X1_finish rfl rfl rfl (by decide +kernel) ⟨Nat.le_of_ble_eq_true rfl, Nat.le_of_ble_eq_true rfl⟩) hE hK hP hD hS hA [0, 1, 2, 3] rfl (by decide) (ci := 0) (q0 := 0) rfl rfl rfl hl.1 rfl (Nat.le_of_ble_eq_true rfl) dX1_lose_9 ⟨Nat.zero_le _, Nat.zero_le _⟩) hP hD hS hA [0, 1, 2, 3] [] [0, 1, 2, 3] rfl rfl (by decide) (by decide) (fun _ => rfl) (by decide) (fun u hu_2 H locs hP hD hS => ?_)
    obtain ⟨n2a_0, n2a_1, n2a_2, n2a_3, n2a_4, n2a_5, n2a_6, n2a_7, n2a_8⟩ := u
    have hP : va_P D vwCl [(h, .inr (0, [.ref ha0, .ref ha1, .ref ha2, .int n2a_3, .int n2a_4, .int n2a_5, .int n2a_6, .int n2a_7, .int n2a_8])), (ha0, .inl (cI, 3075, .inl n2a_0)), (ha1, .inl (cI, 41, .inl n2a_1)), (ha2, .inl (cZ, 41, .inl n2a_2))] H := hP
    have hD : va_D A [(h, .inr (0, [.ref ha0, .ref ha1, .ref ha2, .int n2a_3, .int n2a_4, .int n2a_5, .int n2a_6, .int n2a_7, .int n2a_8])), (ha0, .inl (cI, 3075, .inl n2a_0)), (ha1, .inl (cI, 41, .inl n2a_1)), (ha2, .inl (cZ, 41, .inl n2a_2))] := hD
    have hok_2 : shOK (n2a_0, n2a_1, n2a_2, n2a_3, n2a_4, n2a_5, n2a_6, n2a_7, n2a_8) := sh_finish hu_2 hok
    have hf : f_X1_lose (s_0, s_1, s_2, s_3, s_4, s_5, s_6, s_7, s_8) = (n2a_0, n2a_1, n2a_2, n2a_3, n2a_4, n2a_5, n2a_6, n2a_7, n2a_8) := by simp only [f_X1_lose, hu_2, ↓if_neg c_1]
    exact kretv hx hb hr hlocks hS hP hK hD dX1_lose_12 (congrArg (fun u : ShS => wSh cB cI cZ h ha0 ha1 ha2 u) hf).symm

theorem sh_lose {S u : ShS} (e : f_X1_lose S = u) (h : shOK S) : shOK u := by
  subst e
  obtain ⟨s_0, s_1, s_2, s_3, s_4, s_5, s_6, s_7, s_8⟩ := S
  simp only [f_X1_lose]
  repeat' split
  all_goals first | exact h | exact sh_finish rfl h

abbrev rmX1_begin : Room := { frames := 0, cells := 0, slots := 0, locals := 0 }
def f_X1_begin (S : ShS) : ShS := match S with | (s_0, s_1, s_2, s_3, s_4, s_5, s_6, s_7, s_8) => (if s_3 < 0 then (s_0, s_1, s_2, s_3, s_4, s_5, s_6, s_7, s_8) else (if s_3 < 41 then (s_0, (upd s_1 (s_3).toNatClampNeg 0), s_2, s_3, s_4, 1, 0, s_7, s_8) else (s_0, s_1, s_2, s_3, s_4, s_5, s_6, s_7, s_8)))
set_option maxHeartbeats 4000000 in
set_option maxRecDepth 100000 in
theorem c_X1_begin (l : Launch) (D : va_G) (cB cI cZ : ClassId) (h ha0 ha1 ha2 : Nat) (S : ShS) (hok : shOK S) : CtV l yX1_begin wsX1_begin rmX1_begin D (tyv cB cI cZ) [.ref h] (wSh cB cI cZ h ha0 ha1 ha2 S) (wSh cB cI cZ h ha0 ha1 ha2 ((f_X1_begin S))) := by
  obtain ⟨s_0, s_1, s_2, s_3, s_4, s_5, s_6, s_7, s_8⟩ := S
  refine CtV.of (cc := cX1_begin) (maxL := 1) (ret := none) (by decide +kernel) rfl (Nat.le_of_ble_eq_true rfl) ?_
  intro p e s m below meth c A ls hx hb hr hml hown hts hlocks hE hP hK hD hA hS hl
  have hown : s.vm.findClass RX1 = some m.cls := hown
  have hl : lv_has ls 1 [(0, .ref h)] := hl
  have hP : va_P D vwCl [(h, .inr (0, [.ref ha0, .ref ha1, .ref ha2, .int s_3, .int s_4, .int s_5, .int s_6, .int s_7, .int s_8])), (ha0, .inl (cI, 3075, .inl s_0)), (ha1, .inl (cI, 41, .inl s_1)), (ha2, .inl (cZ, 41, .inl s_2))] s.heap := hP
  have hD : va_D A [(h, .inr (0, [.ref ha0, .ref ha1, .ref ha2, .int s_3, .int s_4, .int s_5, .int s_6, .int s_7, .int s_8])), (ha0, .inl (cI, 3075, .inl s_0)), (ha1, .inl (cI, 41, .inl s_1)), (ha2, .inl (cZ, 41, .inl s_2))] := hD
  have hiX1 : ∀ w ∈ wsX10, w ∈ wsX1_begin := by decide +kernel
  have k15 := hts (.fieldLink RX1 15 "CodedGroups$FrameShelf" "lengths" "[I") (by decide +kernel)
  have k22 := hts (.fieldLink RX1 22 "CodedGroups$FrameShelf" "slot" "I") (by decide +kernel)
  have k29 := hts (.fieldLink RX1 29 "CodedGroups$FrameShelf" "state" "I") (by decide +kernel)
  have k32 := hts (.fieldLink RX1 32 "CodedGroups$FrameShelf" "broken" "Z") (by decide +kernel)
  refine lv_aload_n hx hb dX1_begin_0 rfl (lv_at hl 0 rfl) ?_
  refine va_get (D := D) (ci := 0) (v := .int s_3) (C := RX1) (T := TX1) (N := 9) hx hb hts hiX1 hown hK hP 0 rfl rfl 3 (by decide) k22 (fun _ h9 => h9) rfl dX1_begin_1 ?_
  refine lv_if_lt (tgt := 16) hx hb dX1_begin_4 (by decide) (fun c_1 => ?_) (fun c_1 => ?_)
  · have hf : f_X1_begin (s_0, s_1, s_2, s_3, s_4, s_5, s_6, s_7, s_8) = (s_0, s_1, s_2, s_3, s_4, s_5, s_6, s_7, s_8) := by simp only [f_X1_begin, ↓if_pos c_1]
    exact kretv hx hb hr hlocks hS hP hK hD dX1_begin_16 (congrArg (fun u : ShS => wSh cB cI cZ h ha0 ha1 ha2 u) hf).symm
  · refine lv_aload_n hx hb dX1_begin_7 rfl (lv_at hl 0 rfl) ?_
    refine va_get (D := D) (ci := 0) (v := .int s_3) (C := RX1) (T := TX1) (N := 9) hx hb hts hiX1 hown hK hP 0 rfl rfl 3 (by decide) k22 (fun _ h9 => h9) rfl dX1_begin_8 ?_
    refine lv_bipush (v := 41) hx hb dX1_begin_11 (by decide) ?_
    refine lv_icmp_lt (tgt := 17) hx hb dX1_begin_13 (by decide) (fun c_2 => ?_) (fun c_2 => ?_)
    · refine lv_aload_n hx hb dX1_begin_17 rfl (lv_at hl 0 rfl) ?_
      refine va_get (D := D) (ci := 0) (v := .ref ha1) (C := RX1) (T := TX1) (N := 9) hx hb hts hiX1 hown hK hP 0 rfl rfl 1 (by decide) k15 (fun _ h9 => h9) rfl dX1_begin_18 ?_
      refine lv_aload_n hx hb dX1_begin_21 rfl (lv_at hl 0 rfl) ?_
      refine va_get (D := D) (ci := 0) (v := .int s_3) (C := RX1) (T := TX1) (N := 9) hx hb hts hiX1 hown hK hP 0 rfl rfl 3 (by decide) k22 (fun _ h9 => h9) rfl dX1_begin_22 ?_
      refine lv_iconst (v := 0) hx hb dX1_begin_25 (by decide) ?_
      have h_3 : vp_in s_3 41 := vp_in_iff.mpr hok
      refine va_iast hx hb hK hP hD hS 2 1 rfl rfl h_3 dX1_begin_26 (fun H locs hP hD hS => ?_)
      have hP : va_P D vwCl [(h, .inr (0, [.ref ha0, .ref ha1, .ref ha2, .int s_3, .int s_4, .int s_5, .int s_6, .int s_7, .int s_8])), (ha0, .inl (cI, 3075, .inl s_0)), (ha1, .inl (cI, 41, .inl (upd s_1 (s_3).toNatClampNeg 0))), (ha2, .inl (cZ, 41, .inl s_2))] H := hP
      have hD : va_D A [(h, .inr (0, [.ref ha0, .ref ha1, .ref ha2, .int s_3, .int s_4, .int s_5, .int s_6, .int s_7, .int s_8])), (ha0, .inl (cI, 3075, .inl s_0)), (ha1, .inl (cI, 41, .inl (upd s_1 (s_3).toNatClampNeg 0))), (ha2, .inl (cZ, 41, .inl s_2))] := hD
      refine lv_aload_n hx hb dX1_begin_27 rfl (lv_at hl 0 rfl) ?_
      refine lv_iconst (v := 0) hx hb dX1_begin_28 (by decide) ?_
      refine va_put (D := D) (ci := 0) (v := .int 0) (ty := .boolean) (C := RX1) (T := TX1) (N := 9) hx hb hts hiX1 tyX1 tyX1_ok nmX1 hown hK hP hD hS 0 rfl rfl 6 (by decide) k32 (fun _ h9 => h9) rfl (by decide +kernel) rfl rfl (Nat.le_of_ble_eq_true rfl) dX1_begin_29 (fun H locs hP hD hS => ?_)
      have hP : va_P D vwCl [(h, .inr (0, [.ref ha0, .ref ha1, .ref ha2, .int s_3, .int s_4, .int s_5, .int 0, .int s_7, .int s_8])), (ha0, .inl (cI, 3075, .inl s_0)), (ha1, .inl (cI, 41, .inl (upd s_1 (s_3).toNatClampNeg 0))), (ha2, .inl (cZ, 41, .inl s_2))] H := hP
      have hD : va_D A [(h, .inr (0, [.ref ha0, .ref ha1, .ref ha2, .int s_3, .int s_4, .int s_5, .int 0, .int s_7, .int s_8])), (ha0, .inl (cI, 3075, .inl s_0)), (ha1, .inl (cI, 41, .inl (upd s_1 (s_3).toNatClampNeg 0))), (ha2, .inl (cZ, 41, .inl s_2))] := hD
      refine lv_aload_n hx hb dX1_begin_32 rfl (lv_at hl 0 rfl) ?_
      refine lv_iconst (v := 1) hx hb dX1_begin_33 (by decide) ?_
      refine va_put (D := D) (ci := 0) (v := .int 1) (ty := .int) (C := RX1) (T := TX1) (N := 9) hx hb hts hiX1 tyX1 tyX1_ok nmX1 hown hK hP hD hS 0 rfl rfl 5 (by decide) k29 (fun _ h9 => h9) rfl (by decide +kernel) rfl rfl (Nat.le_of_ble_eq_true rfl) dX1_begin_34 (fun H locs hP hD hS => ?_)
      have hP : va_P D vwCl [(h, .inr (0, [.ref ha0, .ref ha1, .ref ha2, .int s_3, .int s_4, .int 1, .int 0, .int s_7, .int s_8])), (ha0, .inl (cI, 3075, .inl s_0)), (ha1, .inl (cI, 41, .inl (upd s_1 (s_3).toNatClampNeg 0))), (ha2, .inl (cZ, 41, .inl s_2))] H := hP
      have hD : va_D A [(h, .inr (0, [.ref ha0, .ref ha1, .ref ha2, .int s_3, .int s_4, .int 1, .int 0, .int s_7, .int s_8])), (ha0, .inl (cI, 3075, .inl s_0)), (ha1, .inl (cI, 41, .inl (upd s_1 (s_3).toNatClampNeg 0))), (ha2, .inl (cZ, 41, .inl s_2))] := hD
      have hf : f_X1_begin (s_0, s_1, s_2, s_3, s_4, s_5, s_6, s_7, s_8) = (s_0, (upd s_1 (s_3).toNatClampNeg 0), s_2, s_3, s_4, 1, 0, s_7, s_8) := by simp only [f_X1_begin, ↓if_neg c_1, ↓if_pos c_2]
      exact kretv hx hb hr hlocks hS hP hK hD dX1_begin_37 (congrArg (fun u : ShS => wSh cB cI cZ h ha0 ha1 ha2 u) hf).symm
    · have hf : f_X1_begin (s_0, s_1, s_2, s_3, s_4, s_5, s_6, s_7, s_8) = (s_0, s_1, s_2, s_3, s_4, s_5, s_6, s_7, s_8) := by simp only [f_X1_begin, ↓if_neg c_1, ↓if_neg c_2]
      exact kretv hx hb hr hlocks hS hP hK hD dX1_begin_16 (congrArg (fun u : ShS => wSh cB cI cZ h ha0 ha1 ha2 u) hf).symm

theorem sh_begin {S u : ShS} (e : f_X1_begin S = u) (h : shOK S) : shOK u := by
  subst e
  obtain ⟨s_0, s_1, s_2, s_3, s_4, s_5, s_6, s_7, s_8⟩ := S
  simp only [f_X1_begin]
  repeat' split
  all_goals exact h

abbrev rmX1_addByte : Room := { frames := 0, cells := 0, slots := 0, locals := 0 }
def f_X1_addByte (b : Int32) (S : ShS) : ShS := match S with | (s_0, s_1, s_2, s_3, s_4, s_5, s_6, s_7, s_8) => (if s_3 < 0 then (s_0, s_1, s_2, s_3, s_4, s_5, s_6, s_7, s_8) else (if s_3 < 41 then (letv ((s_1 (s_3).toNatClampNeg)) (fun x_4 => (if x_4 < 0 then (s_0, s_1, s_2, s_3, s_4, s_5, 1, s_7, s_8) else (if x_4 < 300 then (letv (((s_3 * 75) + (x_4 >>> ((2 : Int32) &&& 31)))) (fun x_7 => (letv (((x_4 &&& 3) * 8)) (fun x_8 => ((upd s_0 (x_7).toNatClampNeg ((((s_0 (x_7).toNatClampNeg) &&& (((255 : Int32) <<< ((x_8 : Int32) &&& 31)) ^^^ (-1))) ||| ((b &&& 255) <<< ((x_8 : Int32) &&& 31))))), (upd s_1 (s_3).toNatClampNeg ((x_4 + 1))), s_2, s_3, s_4, s_5, s_6, s_7, s_8))))) else (s_0, s_1, s_2, s_3, s_4, s_5, 1, s_7, s_8))))) else (s_0, s_1, s_2, s_3, s_4, s_5, s_6, s_7, s_8)))
set_option maxHeartbeats 4000000 in
set_option maxRecDepth 100000 in
theorem c_X1_addByte (l : Launch) (D : va_G) (cB cI cZ : ClassId) (h ha0 ha1 ha2 : Nat) (S : ShS) (b : Int32) (hok : shOK S) : CtV l yX1_addByte wsX1_addByte rmX1_addByte D (tyv cB cI cZ) [.ref h, .int b] (wSh cB cI cZ h ha0 ha1 ha2 S) (wSh cB cI cZ h ha0 ha1 ha2 ((f_X1_addByte b S))) := by
  obtain ⟨s_0, s_1, s_2, s_3, s_4, s_5, s_6, s_7, s_8⟩ := S
  refine CtV.of (cc := cX1_addByte) (maxL := 5) (ret := none) (by decide +kernel) rfl (Nat.le_of_ble_eq_true rfl) ?_
  intro p e s m below meth c A ls hx hb hr hml hown hts hlocks hE hP hK hD hA hS hl
  have hown : s.vm.findClass RX1 = some m.cls := hown
  have hl : lv_has ls 5 [(0, .ref h), (1, .int b)] := hl
  have hP : va_P D vwCl [(h, .inr (0, [.ref ha0, .ref ha1, .ref ha2, .int s_3, .int s_4, .int s_5, .int s_6, .int s_7, .int s_8])), (ha0, .inl (cI, 3075, .inl s_0)), (ha1, .inl (cI, 41, .inl s_1)), (ha2, .inl (cZ, 41, .inl s_2))] s.heap := hP
  have hD : va_D A [(h, .inr (0, [.ref ha0, .ref ha1, .ref ha2, .int s_3, .int s_4, .int s_5, .int s_6, .int s_7, .int s_8])), (ha0, .inl (cI, 3075, .inl s_0)), (ha1, .inl (cI, 41, .inl s_1)), (ha2, .inl (cZ, 41, .inl s_2))] := hD
  have hiX1 : ∀ w ∈ wsX10, w ∈ wsX1_addByte := by decide +kernel
  have k11 := hts (.fieldLink RX1 11 "CodedGroups$FrameShelf" "words" "[I") (by decide +kernel)
  have k15 := hts (.fieldLink RX1 15 "CodedGroups$FrameShelf" "lengths" "[I") (by decide +kernel)
  have k22 := hts (.fieldLink RX1 22 "CodedGroups$FrameShelf" "slot" "I") (by decide +kernel)
  have k32 := hts (.fieldLink RX1 32 "CodedGroups$FrameShelf" "broken" "Z") (by decide +kernel)
  refine lv_aload_n hx hb dX1_addByte_0 rfl (lv_at hl 0 rfl) ?_
  refine va_get (D := D) (ci := 0) (v := .int s_3) (C := RX1) (T := TX1) (N := 9) hx hb hts hiX1 hown hK hP 0 rfl rfl 3 (by decide) k22 (fun _ h9 => h9) rfl dX1_addByte_1 ?_
  refine lv_if_lt (tgt := 16) hx hb dX1_addByte_4 (by decide) (fun c_1 => ?_) (fun c_1 => ?_)
  · have hf : f_X1_addByte b (s_0, s_1, s_2, s_3, s_4, s_5, s_6, s_7, s_8) = (s_0, s_1, s_2, s_3, s_4, s_5, s_6, s_7, s_8) := by simp only [f_X1_addByte, ↓if_pos c_1]
    exact kretv hx hb hr hlocks hS hP hK hD dX1_addByte_16 (congrArg (fun u : ShS => wSh cB cI cZ h ha0 ha1 ha2 u) hf).symm
  · refine lv_aload_n hx hb dX1_addByte_7 rfl (lv_at hl 0 rfl) ?_
    refine va_get (D := D) (ci := 0) (v := .int s_3) (C := RX1) (T := TX1) (N := 9) hx hb hts hiX1 hown hK hP 0 rfl rfl 3 (by decide) k22 (fun _ h9 => h9) rfl dX1_addByte_8 ?_
    refine lv_bipush (v := 41) hx hb dX1_addByte_11 (by decide) ?_
    refine lv_icmp_lt (tgt := 17) hx hb dX1_addByte_13 (by decide) (fun c_2 => ?_) (fun c_2 => ?_)
    · refine lv_aload_n hx hb dX1_addByte_17 rfl (lv_at hl 0 rfl) ?_
      refine va_get (D := D) (ci := 0) (v := .ref ha1) (C := RX1) (T := TX1) (N := 9) hx hb hts hiX1 hown hK hP 0 rfl rfl 1 (by decide) k15 (fun _ h9 => h9) rfl dX1_addByte_18 ?_
      refine lv_aload_n hx hb dX1_addByte_21 rfl (lv_at hl 0 rfl) ?_
      refine va_get (D := D) (ci := 0) (v := .int s_3) (C := RX1) (T := TX1) (N := 9) hx hb hts hiX1 hown hK hP 0 rfl rfl 3 (by decide) k22 (fun _ h9 => h9) rfl dX1_addByte_22 ?_
      have h_3 : vp_in s_3 41 := vp_in_iff.mpr hok
      refine va_iald hx hb hK hP 2 1 rfl rfl h_3 dX1_addByte_25 ?_
      refine lv_topi (fun x_4 ex_4 => ?_)
      refine lv_istore_n (lv' := [(2, .int x_4), (0, .ref h), (1, .int b)]) hx hb dX1_addByte_26 rfl hl (by decide) rfl (fun ls hl => ?_)
      refine lv_iload_n hx hb dX1_addByte_27 rfl (lv_at hl 0 rfl) ?_
      refine lv_if_lt (tgt := 38) hx hb dX1_addByte_28 (by decide) (fun c_5 => ?_) (fun c_5 => ?_)
      · refine lv_aload_n hx hb dX1_addByte_38 rfl (lv_at hl 1 rfl) ?_
        refine lv_iconst (v := 1) hx hb dX1_addByte_39 (by decide) ?_
        refine va_put (D := D) (ci := 0) (v := .int 1) (ty := .boolean) (C := RX1) (T := TX1) (N := 9) hx hb hts hiX1 tyX1 tyX1_ok nmX1 hown hK hP hD hS 0 rfl rfl 6 (by decide) k32 (fun _ h9 => h9) rfl (by decide +kernel) rfl rfl (Nat.le_of_ble_eq_true rfl) dX1_addByte_40 (fun H locs hP hD hS => ?_)
        have hP : va_P D vwCl [(h, .inr (0, [.ref ha0, .ref ha1, .ref ha2, .int s_3, .int s_4, .int s_5, .int 1, .int s_7, .int s_8])), (ha0, .inl (cI, 3075, .inl s_0)), (ha1, .inl (cI, 41, .inl s_1)), (ha2, .inl (cZ, 41, .inl s_2))] H := hP
        have hD : va_D A [(h, .inr (0, [.ref ha0, .ref ha1, .ref ha2, .int s_3, .int s_4, .int s_5, .int 1, .int s_7, .int s_8])), (ha0, .inl (cI, 3075, .inl s_0)), (ha1, .inl (cI, 41, .inl s_1)), (ha2, .inl (cZ, 41, .inl s_2))] := hD
        have hf : f_X1_addByte b (s_0, s_1, s_2, s_3, s_4, s_5, s_6, s_7, s_8) = (s_0, s_1, s_2, s_3, s_4, s_5, 1, s_7, s_8) := by simp only [f_X1_addByte, ↓letv_eq ex_4, ↓if_neg c_1, ↓if_pos c_2, ↓if_pos c_5]
        exact kretv hx hb hr hlocks hS hP hK hD dX1_addByte_43 (congrArg (fun u : ShS => wSh cB cI cZ h ha0 ha1 ha2 u) hf).symm
      · refine lv_iload_n hx hb dX1_addByte_31 rfl (lv_at hl 0 rfl) ?_
        refine lv_sipush (v := 300) hx hb dX1_addByte_32 (by decide) ?_
        refine lv_icmp_lt (tgt := 44) hx hb dX1_addByte_35 (by decide) (fun c_6 => ?_) (fun c_6 => ?_)
        · refine lv_aload_n hx hb dX1_addByte_44 rfl (lv_at hl 1 rfl) ?_
          refine va_get (D := D) (ci := 0) (v := .int s_3) (C := RX1) (T := TX1) (N := 9) hx hb hts hiX1 hown hK hP 0 rfl rfl 3 (by decide) k22 (fun _ h9 => h9) rfl dX1_addByte_45 ?_
          refine lv_bipush (v := 75) hx hb dX1_addByte_48 (by decide) ?_
          refine lv_imul hx hb dX1_addByte_50 ?_
          refine lv_iload_n hx hb dX1_addByte_51 rfl (lv_at hl 0 rfl) ?_
          refine lv_iconst (v := 2) hx hb dX1_addByte_52 (by decide) ?_
          refine lv_ishr hx hb dX1_addByte_53 ?_
          refine lv_iadd hx hb dX1_addByte_54 ?_
          refine lv_topi (fun x_7 ex_7 => ?_)
          refine lv_istore_n (lv' := [(3, .int x_7), (2, .int x_4), (0, .ref h), (1, .int b)]) hx hb dX1_addByte_55 rfl hl (by decide) rfl (fun ls hl => ?_)
          refine lv_iload_n hx hb dX1_addByte_56 rfl (lv_at hl 1 rfl) ?_
          refine lv_iconst (v := 3) hx hb dX1_addByte_57 (by decide) ?_
          refine lv_iand hx hb dX1_addByte_58 ?_
          refine lv_bipush (v := 8) hx hb dX1_addByte_59 (by decide) ?_
          refine lv_imul hx hb dX1_addByte_61 ?_
          refine lv_topi (fun x_8 ex_8 => ?_)
          refine lv_istore (lv' := [(4, .int x_8), (3, .int x_7), (2, .int x_4), (0, .ref h), (1, .int b)]) hx hb dX1_addByte_62 hl (by decide) rfl (fun ls hl => ?_)
          refine lv_aload_n hx hb dX1_addByte_64 rfl (lv_at hl 3 rfl) ?_
          refine va_get (D := D) (ci := 0) (v := .ref ha0) (C := RX1) (T := TX1) (N := 9) hx hb hts hiX1 hown hK hP 0 rfl rfl 0 (by decide) k11 (fun _ h9 => h9) rfl dX1_addByte_65 ?_
          refine lv_iload_n hx hb dX1_addByte_68 rfl (lv_at hl 1 rfl) ?_
          refine lv_aload_n hx hb dX1_addByte_69 rfl (lv_at hl 3 rfl) ?_
          refine va_get (D := D) (ci := 0) (v := .ref ha0) (C := RX1) (T := TX1) (N := 9) hx hb hts hiX1 hown hK hP 0 rfl rfl 0 (by decide) k11 (fun _ h9 => h9) rfl dX1_addByte_70 ?_
          refine lv_iload_n hx hb dX1_addByte_73 rfl (lv_at hl 1 rfl) ?_
          have h_9 : vp_in x_7 3075 := in_word hok (i_nlt c_5) (i_lt c_6) ex_7
          refine va_iald hx hb hK hP 1 1 rfl rfl h_9 dX1_addByte_74 ?_
          refine lv_sipush (v := 255) hx hb dX1_addByte_75 (by decide) ?_
          refine lv_iload hx hb dX1_addByte_78 (lv_at hl 0 rfl) ?_
          refine lv_ishl hx hb dX1_addByte_80 ?_
          refine lv_iconst (v := (-1)) hx hb dX1_addByte_81 (by decide) ?_
          refine lv_ixor hx hb dX1_addByte_82 ?_
          refine lv_iand hx hb dX1_addByte_83 ?_
          refine lv_iload_n hx hb dX1_addByte_84 rfl (lv_at hl 4 rfl) ?_
          refine lv_sipush (v := 255) hx hb dX1_addByte_85 (by decide) ?_
          refine lv_iand hx hb dX1_addByte_88 ?_
          refine lv_iload hx hb dX1_addByte_89 (lv_at hl 0 rfl) ?_
          refine lv_ishl hx hb dX1_addByte_91 ?_
          refine lv_ior hx hb dX1_addByte_92 ?_
          have h_10 : vp_in x_7 3075 := in_word hok (i_nlt c_5) (i_lt c_6) ex_7
          refine va_iast hx hb hK hP hD hS 1 1 rfl rfl h_10 dX1_addByte_93 (fun H locs hP hD hS => ?_)
          have hP : va_P D vwCl [(h, .inr (0, [.ref ha0, .ref ha1, .ref ha2, .int s_3, .int s_4, .int s_5, .int s_6, .int s_7, .int s_8])), (ha0, .inl (cI, 3075, .inl (upd s_0 (x_7).toNatClampNeg ((((s_0 (x_7).toNatClampNeg) &&& (((255 : Int32) <<< ((x_8 : Int32) &&& 31)) ^^^ (-1))) ||| ((b &&& 255) <<< ((x_8 : Int32) &&& 31))))))), (ha1, .inl (cI, 41, .inl s_1)), (ha2, .inl (cZ, 41, .inl s_2))] H := hP
          have hD : va_D A [(h, .inr (0, [.ref ha0, .ref ha1, .ref ha2, .int s_3, .int s_4, .int s_5, .int s_6, .int s_7, .int s_8])), (ha0, .inl (cI, 3075, .inl (upd s_0 (x_7).toNatClampNeg ((((s_0 (x_7).toNatClampNeg) &&& (((255 : Int32) <<< ((x_8 : Int32) &&& 31)) ^^^ (-1))) ||| ((b &&& 255) <<< ((x_8 : Int32) &&& 31))))))), (ha1, .inl (cI, 41, .inl s_1)), (ha2, .inl (cZ, 41, .inl s_2))] := hD
          refine lv_aload_n hx hb dX1_addByte_94 rfl (lv_at hl 3 rfl) ?_
          refine va_get (D := D) (ci := 0) (v := .ref ha1) (C := RX1) (T := TX1) (N := 9) hx hb hts hiX1 hown hK hP 0 rfl rfl 1 (by decide) k15 (fun _ h9 => h9) rfl dX1_addByte_95 ?_
          refine lv_aload_n hx hb dX1_addByte_98 rfl (lv_at hl 3 rfl) ?_
          refine va_get (D := D) (ci := 0) (v := .int s_3) (C := RX1) (T := TX1) (N := 9) hx hb hts hiX1 hown hK hP 0 rfl rfl 3 (by decide) k22 (fun _ h9 => h9) rfl dX1_addByte_99 ?_
          refine lv_iload_n hx hb dX1_addByte_102 rfl (lv_at hl 2 rfl) ?_
          refine lv_iconst (v := 1) hx hb dX1_addByte_103 (by decide) ?_
          refine lv_iadd hx hb dX1_addByte_104 ?_
          have h_11 : vp_in s_3 41 := vp_in_iff.mpr hok
          refine va_iast hx hb hK hP hD hS 2 1 rfl rfl h_11 dX1_addByte_105 (fun H locs hP hD hS => ?_)
          have hP : va_P D vwCl [(h, .inr (0, [.ref ha0, .ref ha1, .ref ha2, .int s_3, .int s_4, .int s_5, .int s_6, .int s_7, .int s_8])), (ha0, .inl (cI, 3075, .inl (upd s_0 (x_7).toNatClampNeg ((((s_0 (x_7).toNatClampNeg) &&& (((255 : Int32) <<< ((x_8 : Int32) &&& 31)) ^^^ (-1))) ||| ((b &&& 255) <<< ((x_8 : Int32) &&& 31))))))), (ha1, .inl (cI, 41, .inl (upd s_1 (s_3).toNatClampNeg ((x_4 + 1))))), (ha2, .inl (cZ, 41, .inl s_2))] H := hP
          have hD : va_D A [(h, .inr (0, [.ref ha0, .ref ha1, .ref ha2, .int s_3, .int s_4, .int s_5, .int s_6, .int s_7, .int s_8])), (ha0, .inl (cI, 3075, .inl (upd s_0 (x_7).toNatClampNeg ((((s_0 (x_7).toNatClampNeg) &&& (((255 : Int32) <<< ((x_8 : Int32) &&& 31)) ^^^ (-1))) ||| ((b &&& 255) <<< ((x_8 : Int32) &&& 31))))))), (ha1, .inl (cI, 41, .inl (upd s_1 (s_3).toNatClampNeg ((x_4 + 1))))), (ha2, .inl (cZ, 41, .inl s_2))] := hD
          have hf : f_X1_addByte b (s_0, s_1, s_2, s_3, s_4, s_5, s_6, s_7, s_8) = ((upd s_0 (x_7).toNatClampNeg ((((s_0 (x_7).toNatClampNeg) &&& (((255 : Int32) <<< ((x_8 : Int32) &&& 31)) ^^^ (-1))) ||| ((b &&& 255) <<< ((x_8 : Int32) &&& 31))))), (upd s_1 (s_3).toNatClampNeg ((x_4 + 1))), s_2, s_3, s_4, s_5, s_6, s_7, s_8) := by simp only [f_X1_addByte, ↓letv_eq ex_4, ↓letv_eq ex_7, ↓letv_eq ex_8, ↓if_neg c_1, ↓if_pos c_2, ↓if_neg c_5, ↓if_pos c_6]
          exact kretv hx hb hr hlocks hS hP hK hD dX1_addByte_106 (congrArg (fun u : ShS => wSh cB cI cZ h ha0 ha1 ha2 u) hf).symm
        · refine lv_aload_n hx hb dX1_addByte_38 rfl (lv_at hl 1 rfl) ?_
          refine lv_iconst (v := 1) hx hb dX1_addByte_39 (by decide) ?_
          refine va_put (D := D) (ci := 0) (v := .int 1) (ty := .boolean) (C := RX1) (T := TX1) (N := 9) hx hb hts hiX1 tyX1 tyX1_ok nmX1 hown hK hP hD hS 0 rfl rfl 6 (by decide) k32 (fun _ h9 => h9) rfl (by decide +kernel) rfl rfl (Nat.le_of_ble_eq_true rfl) dX1_addByte_40 (fun H locs hP hD hS => ?_)
          have hP : va_P D vwCl [(h, .inr (0, [.ref ha0, .ref ha1, .ref ha2, .int s_3, .int s_4, .int s_5, .int 1, .int s_7, .int s_8])), (ha0, .inl (cI, 3075, .inl s_0)), (ha1, .inl (cI, 41, .inl s_1)), (ha2, .inl (cZ, 41, .inl s_2))] H := hP
          have hD : va_D A [(h, .inr (0, [.ref ha0, .ref ha1, .ref ha2, .int s_3, .int s_4, .int s_5, .int 1, .int s_7, .int s_8])), (ha0, .inl (cI, 3075, .inl s_0)), (ha1, .inl (cI, 41, .inl s_1)), (ha2, .inl (cZ, 41, .inl s_2))] := hD
          have hf : f_X1_addByte b (s_0, s_1, s_2, s_3, s_4, s_5, s_6, s_7, s_8) = (s_0, s_1, s_2, s_3, s_4, s_5, 1, s_7, s_8) := by simp only [f_X1_addByte, ↓letv_eq ex_4, ↓if_neg c_1, ↓if_pos c_2, ↓if_neg c_5, ↓if_neg c_6]
          exact kretv hx hb hr hlocks hS hP hK hD dX1_addByte_43 (congrArg (fun u : ShS => wSh cB cI cZ h ha0 ha1 ha2 u) hf).symm
    · have hf : f_X1_addByte b (s_0, s_1, s_2, s_3, s_4, s_5, s_6, s_7, s_8) = (s_0, s_1, s_2, s_3, s_4, s_5, s_6, s_7, s_8) := by simp only [f_X1_addByte, ↓if_neg c_1, ↓if_neg c_2]
      exact kretv hx hb hr hlocks hS hP hK hD dX1_addByte_16 (congrArg (fun u : ShS => wSh cB cI cZ h ha0 ha1 ha2 u) hf).symm

theorem sh_addByte {b : Int32} {S u : ShS} (e : f_X1_addByte b S = u) (h : shOK S) : shOK u := by
  subst e
  obtain ⟨s_0, s_1, s_2, s_3, s_4, s_5, s_6, s_7, s_8⟩ := S
  simp only [f_X1_addByte, letv]
  repeat' split
  all_goals exact h

abbrev rmX1_lookInside : Room := { frames := 1, cells := 0, slots := 0, locals := 24 }
def f_X1_lookInside (what : Int32) (S : ShS) : ShS := match S with | (s_0, s_1, s_2, s_3, s_4, s_5, s_6, s_7, s_8) => (if what = (-1) then (s_0, s_1, s_2, s_3, s_4, s_5, 1, s_7, s_8) else (if (256 : Int32) ≤ what then (if what = 509 then (s_0, s_1, s_2, s_3, s_4, 2, s_6, s_7, s_8) else (f_X1_finish 0 (s_0, s_1, s_2, s_3, s_4, s_5, s_6, s_7, s_8))) else (f_X1_addByte what (s_0, s_1, s_2, s_3, s_4, s_5, s_6, s_7, s_8))))
set_option maxHeartbeats 4000000 in
set_option maxRecDepth 100000 in
theorem c_X1_lookInside (l : Launch) (D : va_G) (cB cI cZ : ClassId) (h ha0 ha1 ha2 : Nat) (S : ShS) (what : Int32) (hok : shOK S) : CtV l yX1_lookInside wsX1_lookInside rmX1_lookInside D (tyv cB cI cZ) [.ref h, .int what] (wSh cB cI cZ h ha0 ha1 ha2 S) (wSh cB cI cZ h ha0 ha1 ha2 ((f_X1_lookInside what S))) := by
  obtain ⟨s_0, s_1, s_2, s_3, s_4, s_5, s_6, s_7, s_8⟩ := S
  refine CtV.of (cc := cX1_lookInside) (maxL := 2) (ret := none) (by decide +kernel) rfl (Nat.le_of_ble_eq_true rfl) ?_
  intro p e s m below meth c A ls hx hb hr hml hown hts hlocks hE hP hK hD hA hS hl
  have hown : s.vm.findClass RX1 = some m.cls := hown
  have hl : lv_has ls 2 [(0, .ref h), (1, .int what)] := hl
  have hP : va_P D vwCl [(h, .inr (0, [.ref ha0, .ref ha1, .ref ha2, .int s_3, .int s_4, .int s_5, .int s_6, .int s_7, .int s_8])), (ha0, .inl (cI, 3075, .inl s_0)), (ha1, .inl (cI, 41, .inl s_1)), (ha2, .inl (cZ, 41, .inl s_2))] s.heap := hP
  have hD : va_D A [(h, .inr (0, [.ref ha0, .ref ha1, .ref ha2, .int s_3, .int s_4, .int s_5, .int s_6, .int s_7, .int s_8])), (ha0, .inl (cI, 3075, .inl s_0)), (ha1, .inl (cI, 41, .inl s_1)), (ha2, .inl (cZ, 41, .inl s_2))] := hD
  have hiX1 : ∀ w ∈ wsX10, w ∈ wsX1_lookInside := by decide +kernel
  have k29 := hts (.fieldLink RX1 29 "CodedGroups$FrameShelf" "state" "I") (by decide +kernel)
  have k32 := hts (.fieldLink RX1 32 "CodedGroups$FrameShelf" "broken" "Z") (by decide +kernel)
  refine lv_iload_n hx hb dX1_lookInside_0 rfl (lv_at hl 1 rfl) ?_
  refine lv_iconst (v := (-1)) hx hb dX1_lookInside_1 (by decide) ?_
  refine lv_icmp_ne (tgt := 13) hx hb dX1_lookInside_2 (by decide) (fun c_1 => ?_) (fun c_1 => ?_)
  · refine lv_iload_n hx hb dX1_lookInside_13 rfl (lv_at hl 1 rfl) ?_
    refine lv_sipush (v := 256) hx hb dX1_lookInside_14 (by decide) ?_
    refine lv_icmp_ge (tgt := 28) hx hb dX1_lookInside_17 (by decide) (fun c_2 => ?_) (fun c_2 => ?_)
    · refine lv_iload_n hx hb dX1_lookInside_28 rfl (lv_at hl 1 rfl) ?_
      refine lv_sipush (v := 509) hx hb dX1_lookInside_29 (by decide) ?_
      refine lv_icmp_ne (tgt := 43) hx hb dX1_lookInside_32 (by decide) (fun c_3 => ?_) (fun c_3 => ?_)
      · refine lv_aload_n hx hb dX1_lookInside_43 rfl (lv_at hl 0 rfl) ?_
        refine lv_iconst (v := 0) hx hb dX1_lookInside_44 (by decide) ?_
        refine kcallvU (f_X1_finish 0 (s_0, s_1, s_2, s_3, s_4, s_5, s_6, s_7, s_8)) (fun u : ShS => (wSh cB cI cZ h ha0 ha1 ha2 u)) (fun u : ShS => [(h, .inr (0, [.ref ha0, .ref ha1, .ref ha2, .int u.2.2.2.1, .int u.2.2.2.2.1, .int u.2.2.2.2.2.1, .int u.2.2.2.2.2.2.1, .int u.2.2.2.2.2.2.2.1, .int u.2.2.2.2.2.2.2.2])), (ha0, .inl (cI, 3075, .inl u.1)), (ha1, .inl (cI, 41, .inl u.2.1)), (ha2, .inl (cZ, 41, .inl u.2.2.1))]) (wr := []) (krunVv (As := [.int 0]) (rest := []) ⟨hx, hb, hml, hown, hts⟩ (c_X1_finish l D cB cI cZ h ha0 ha1 ha2 (s_0, s_1, s_2, s_3, s_4, s_5, s_6, s_7, s_8) 0 hok) (cwV 1 hts gX1_lookInside_X1_finish rfl rfl rfl (by decide +kernel) ⟨Nat.le_of_ble_eq_true rfl, Nat.le_of_ble_eq_true rfl⟩) hE hK hP hD hS hA [0, 1, 2, 3] rfl (by decide) (ci := 0) (q0 := 0) rfl rfl rfl hl.1 rfl (Nat.le_of_ble_eq_true rfl) dX1_lookInside_45 ⟨Nat.zero_le _, Nat.zero_le _⟩) hP hD hS hA [0, 1, 2, 3] [] [0, 1, 2, 3] rfl rfl (by decide) (by decide) (fun _ => rfl) (by decide) (fun u hu_4 H locs hP hD hS => ?_)
        obtain ⟨n4a_0, n4a_1, n4a_2, n4a_3, n4a_4, n4a_5, n4a_6, n4a_7, n4a_8⟩ := u
        have hP : va_P D vwCl [(h, .inr (0, [.ref ha0, .ref ha1, .ref ha2, .int n4a_3, .int n4a_4, .int n4a_5, .int n4a_6, .int n4a_7, .int n4a_8])), (ha0, .inl (cI, 3075, .inl n4a_0)), (ha1, .inl (cI, 41, .inl n4a_1)), (ha2, .inl (cZ, 41, .inl n4a_2))] H := hP
        have hD : va_D A [(h, .inr (0, [.ref ha0, .ref ha1, .ref ha2, .int n4a_3, .int n4a_4, .int n4a_5, .int n4a_6, .int n4a_7, .int n4a_8])), (ha0, .inl (cI, 3075, .inl n4a_0)), (ha1, .inl (cI, 41, .inl n4a_1)), (ha2, .inl (cZ, 41, .inl n4a_2))] := hD
        have hok_4 : shOK (n4a_0, n4a_1, n4a_2, n4a_3, n4a_4, n4a_5, n4a_6, n4a_7, n4a_8) := sh_finish hu_4 hok
        have hf : f_X1_lookInside what (s_0, s_1, s_2, s_3, s_4, s_5, s_6, s_7, s_8) = (n4a_0, n4a_1, n4a_2, n4a_3, n4a_4, n4a_5, n4a_6, n4a_7, n4a_8) := by simp only [f_X1_lookInside, hu_4, ↓if_neg c_1, ↓if_pos c_2, ↓if_neg c_3]
        exact kretv hx hb hr hlocks hS hP hK hD dX1_lookInside_48 (congrArg (fun u : ShS => wSh cB cI cZ h ha0 ha1 ha2 u) hf).symm
      · refine lv_aload_n hx hb dX1_lookInside_35 rfl (lv_at hl 0 rfl) ?_
        refine lv_iconst (v := 2) hx hb dX1_lookInside_36 (by decide) ?_
        refine va_put (D := D) (ci := 0) (v := .int 2) (ty := .int) (C := RX1) (T := TX1) (N := 9) hx hb hts hiX1 tyX1 tyX1_ok nmX1 hown hK hP hD hS 0 rfl rfl 5 (by decide) k29 (fun _ h9 => h9) rfl (by decide +kernel) rfl rfl (Nat.le_of_ble_eq_true rfl) dX1_lookInside_37 (fun H locs hP hD hS => ?_)
        have hP : va_P D vwCl [(h, .inr (0, [.ref ha0, .ref ha1, .ref ha2, .int s_3, .int s_4, .int 2, .int s_6, .int s_7, .int s_8])), (ha0, .inl (cI, 3075, .inl s_0)), (ha1, .inl (cI, 41, .inl s_1)), (ha2, .inl (cZ, 41, .inl s_2))] H := hP
        have hD : va_D A [(h, .inr (0, [.ref ha0, .ref ha1, .ref ha2, .int s_3, .int s_4, .int 2, .int s_6, .int s_7, .int s_8])), (ha0, .inl (cI, 3075, .inl s_0)), (ha1, .inl (cI, 41, .inl s_1)), (ha2, .inl (cZ, 41, .inl s_2))] := hD
        refine lv_goto (tgt := 48) hx hb dX1_lookInside_40 (by decide) ?_
        have hf : f_X1_lookInside what (s_0, s_1, s_2, s_3, s_4, s_5, s_6, s_7, s_8) = (s_0, s_1, s_2, s_3, s_4, 2, s_6, s_7, s_8) := by simp only [f_X1_lookInside, ↓if_neg c_1, ↓if_pos c_2, ↓if_pos c_3]
        exact kretv hx hb hr hlocks hS hP hK hD dX1_lookInside_48 (congrArg (fun u : ShS => wSh cB cI cZ h ha0 ha1 ha2 u) hf).symm
    · refine lv_aload_n hx hb dX1_lookInside_20 rfl (lv_at hl 0 rfl) ?_
      refine lv_iload_n hx hb dX1_lookInside_21 rfl (lv_at hl 1 rfl) ?_
      refine kcallvU (f_X1_addByte what (s_0, s_1, s_2, s_3, s_4, s_5, s_6, s_7, s_8)) (fun u : ShS => (wSh cB cI cZ h ha0 ha1 ha2 u)) (fun u : ShS => [(h, .inr (0, [.ref ha0, .ref ha1, .ref ha2, .int u.2.2.2.1, .int u.2.2.2.2.1, .int u.2.2.2.2.2.1, .int u.2.2.2.2.2.2.1, .int u.2.2.2.2.2.2.2.1, .int u.2.2.2.2.2.2.2.2])), (ha0, .inl (cI, 3075, .inl u.1)), (ha1, .inl (cI, 41, .inl u.2.1)), (ha2, .inl (cZ, 41, .inl u.2.2.1))]) (wr := []) (krunVv (As := [.int what]) (rest := []) ⟨hx, hb, hml, hown, hts⟩ (c_X1_addByte l D cB cI cZ h ha0 ha1 ha2 (s_0, s_1, s_2, s_3, s_4, s_5, s_6, s_7, s_8) what hok) (cwV 1 hts gX1_lookInside_X1_addByte rfl rfl rfl (by decide +kernel) ⟨Nat.le_of_ble_eq_true rfl, Nat.le_of_ble_eq_true rfl⟩) hE hK hP hD hS hA [0, 1, 2, 3] rfl (by decide) (ci := 0) (q0 := 0) rfl rfl rfl hl.1 rfl (Nat.le_of_ble_eq_true rfl) dX1_lookInside_22 ⟨Nat.zero_le _, Nat.zero_le _⟩) hP hD hS hA [0, 1, 2, 3] [] [0, 1, 2, 3] rfl rfl (by decide) (by decide) (fun _ => rfl) (by decide) (fun u hu_5 H locs hP hD hS => ?_)
      obtain ⟨n5a_0, n5a_1, n5a_2, n5a_3, n5a_4, n5a_5, n5a_6, n5a_7, n5a_8⟩ := u
      have hP : va_P D vwCl [(h, .inr (0, [.ref ha0, .ref ha1, .ref ha2, .int n5a_3, .int n5a_4, .int n5a_5, .int n5a_6, .int n5a_7, .int n5a_8])), (ha0, .inl (cI, 3075, .inl n5a_0)), (ha1, .inl (cI, 41, .inl n5a_1)), (ha2, .inl (cZ, 41, .inl n5a_2))] H := hP
      have hD : va_D A [(h, .inr (0, [.ref ha0, .ref ha1, .ref ha2, .int n5a_3, .int n5a_4, .int n5a_5, .int n5a_6, .int n5a_7, .int n5a_8])), (ha0, .inl (cI, 3075, .inl n5a_0)), (ha1, .inl (cI, 41, .inl n5a_1)), (ha2, .inl (cZ, 41, .inl n5a_2))] := hD
      have hok_5 : shOK (n5a_0, n5a_1, n5a_2, n5a_3, n5a_4, n5a_5, n5a_6, n5a_7, n5a_8) := sh_addByte hu_5 hok
      refine lv_goto (tgt := 48) hx hb dX1_lookInside_25 (by decide) ?_
      have hf : f_X1_lookInside what (s_0, s_1, s_2, s_3, s_4, s_5, s_6, s_7, s_8) = (n5a_0, n5a_1, n5a_2, n5a_3, n5a_4, n5a_5, n5a_6, n5a_7, n5a_8) := by simp only [f_X1_lookInside, hu_5, ↓if_neg c_1, ↓if_neg c_2]
      exact kretv hx hb hr hlocks hS hP hK hD dX1_lookInside_48 (congrArg (fun u : ShS => wSh cB cI cZ h ha0 ha1 ha2 u) hf).symm
  · refine lv_aload_n hx hb dX1_lookInside_5 rfl (lv_at hl 0 rfl) ?_
    refine lv_iconst (v := 1) hx hb dX1_lookInside_6 (by decide) ?_
    refine va_put (D := D) (ci := 0) (v := .int 1) (ty := .boolean) (C := RX1) (T := TX1) (N := 9) hx hb hts hiX1 tyX1 tyX1_ok nmX1 hown hK hP hD hS 0 rfl rfl 6 (by decide) k32 (fun _ h9 => h9) rfl (by decide +kernel) rfl rfl (Nat.le_of_ble_eq_true rfl) dX1_lookInside_7 (fun H locs hP hD hS => ?_)
    have hP : va_P D vwCl [(h, .inr (0, [.ref ha0, .ref ha1, .ref ha2, .int s_3, .int s_4, .int s_5, .int 1, .int s_7, .int s_8])), (ha0, .inl (cI, 3075, .inl s_0)), (ha1, .inl (cI, 41, .inl s_1)), (ha2, .inl (cZ, 41, .inl s_2))] H := hP
    have hD : va_D A [(h, .inr (0, [.ref ha0, .ref ha1, .ref ha2, .int s_3, .int s_4, .int s_5, .int 1, .int s_7, .int s_8])), (ha0, .inl (cI, 3075, .inl s_0)), (ha1, .inl (cI, 41, .inl s_1)), (ha2, .inl (cZ, 41, .inl s_2))] := hD
    refine lv_goto (tgt := 48) hx hb dX1_lookInside_10 (by decide) ?_
    have hf : f_X1_lookInside what (s_0, s_1, s_2, s_3, s_4, s_5, s_6, s_7, s_8) = (s_0, s_1, s_2, s_3, s_4, s_5, 1, s_7, s_8) := by simp only [f_X1_lookInside, ↓if_pos c_1]
    exact kretv hx hb hr hlocks hS hP hK hD dX1_lookInside_48 (congrArg (fun u : ShS => wSh cB cI cZ h ha0 ha1 ha2 u) hf).symm

theorem sh_lookInside {w : Int32} {S u : ShS} (e : f_X1_lookInside w S = u) (h : shOK S) : shOK u := by
  subst e
  obtain ⟨s_0, s_1, s_2, s_3, s_4, s_5, s_6, s_7, s_8⟩ := S
  simp only [f_X1_lookInside]
  repeat' split
  all_goals first | exact h | exact sh_finish rfl h | exact sh_addByte rfl h

abbrev rmX1_look : Room := { frames := 2, cells := 0, slots := 0, locals := 45 }
def jn_X1_look_31 (v1 : Int32) (S : ShS) : ShS := match S with | (ls_0, ls_1, ls_2, ls_3, ls_4, ls_5, ls_6, ls_7, ls_8) => (if v1 = 507 then (f_X1_begin (f_X1_lose (ls_0, ls_1, ls_2, ls_3, ls_4, ls_5, ls_6, ls_7, ls_8))) else (if ls_5 = 1 then (f_X1_lookInside v1 (ls_0, ls_1, ls_2, ls_3, ls_4, ls_5, ls_6, ls_7, ls_8)) else (ls_0, ls_1, ls_2, ls_3, ls_4, ls_5, ls_6, ls_7, ls_8)))
set_option maxHeartbeats 4000000 in
set_option maxRecDepth 100000 in
theorem jq_X1_look_31 (l : Launch) (D : va_G) (cB cI cZ : ClassId) (h ha0 ha1 ha2 : Nat) {p : Program} {e : Env} {s : State} {m : MethodId} {args : Array Value} {below : List Frame} {meth : Method} {c : Code} {A : Nat → Prop} (hx : p.tables.exec = Jvm.exec) (hb : c.code = cX1_look) (hr : meth.sig.returnType = none) (hml : c.maxLocals = 2) (hown : s.vm.findClass RX1 = some m.cls) (hts : ∀ w ∈ wsX1_look, w.before args s = true) (hlocks : meth.locks = false) (hE : ev A s s.heap) (hK : va_K D vwCl (tyv cB cI cZ) s) (hA : ∀ q, s.heap.size ≤ q → A q) : ∀ (v1 : Int32) (ls_0 : Nat → Int32) (ls_1 : Nat → Int32) (ls_2 : Nat → Int32) (ls_3 : Int32) (ls_4 : Int32) (ls_5 : Int32) (ls_6 : Int32) (ls_7 : Int32) (ls_8 : Int32), (shOK (ls_0, ls_1, ls_2, ls_3, ls_4, ls_5, ls_6, ls_7, ls_8)) → ∀ (H : Heap) (locs : List Loc), va_P D vwCl [(h, .inr (0, [.ref ha0, .ref ha1, .ref ha2, .int ls_3, .int ls_4, .int ls_5, .int ls_6, .int ls_7, .int ls_8])), (ha0, .inl (cI, 3075, .inl ls_0)), (ha1, .inl (cI, 41, .inl ls_1)), (ha2, .inl (cZ, 41, .inl ls_2))] H → va_D A [(h, .inr (0, [.ref ha0, .ref ha1, .ref ha2, .int ls_3, .int ls_4, .int ls_5, .int ls_6, .int ls_7, .int ls_8])), (ha0, .inl (cI, 3075, .inl ls_0)), (ha1, .inl (cI, 41, .inl ls_1)), (ha2, .inl (cZ, 41, .inl ls_2))] → va_S A s.heap H locs → ∀ (ls : Array Slot), lv_has ls 2 [(0, .ref h), (1, .int v1)] → W p l e rmX1_look s m args below meth c H locs 0 0 (MQ below (kQv D (tyv cB cI cZ) A (wSh cB cI cZ h ha0 ha1 ha2 ((jn_X1_look_31 v1 (ls_0, ls_1, ls_2, ls_3, ls_4, ls_5, ls_6, ls_7, ls_8))))) args s 0 0 A) (F0 m 31 ls []) := by
  have hiX1 : ∀ w ∈ wsX10, w ∈ wsX1_look := by decide +kernel
  have k29 := hts (.fieldLink RX1 29 "CodedGroups$FrameShelf" "state" "I") (by decide +kernel)
  intro v1 ls_0 ls_1 ls_2 ls_3 ls_4 ls_5 ls_6 ls_7 ls_8 hm H locs hP hD hS ls hl
  refine lv_iload_n hx hb dX1_look_31 rfl (lv_at hl 1 rfl) ?_
  refine lv_sipush (v := 507) hx hb dX1_look_32 (by decide) ?_
  refine lv_icmp_ne (tgt := 49) hx hb dX1_look_35 (by decide) (fun c_1 => ?_) (fun c_1 => ?_)
  · refine lv_aload_n hx hb dX1_look_49 rfl (lv_at hl 0 rfl) ?_
    refine va_get (D := D) (ci := 0) (v := .int ls_5) (C := RX1) (T := TX1) (N := 9) hx hb hts hiX1 hown hK hP 0 rfl rfl 5 (by decide) k29 (fun _ h9 => h9) rfl dX1_look_50 ?_
    refine lv_iconst (v := 1) hx hb dX1_look_53 (by decide) ?_
    refine lv_icmp_ne (tgt := 62) hx hb dX1_look_54 (by decide) (fun c_2 => ?_) (fun c_2 => ?_)
    · have hf : jn_X1_look_31 v1 (ls_0, ls_1, ls_2, ls_3, ls_4, ls_5, ls_6, ls_7, ls_8) = (ls_0, ls_1, ls_2, ls_3, ls_4, ls_5, ls_6, ls_7, ls_8) := by simp only [jn_X1_look_31, ↓if_neg c_1, ↓if_neg c_2]
      exact kretv hx hb hr hlocks hS hP hK hD dX1_look_62 (congrArg (fun u : ShS => wSh cB cI cZ h ha0 ha1 ha2 u) hf).symm
    · refine lv_aload_n hx hb dX1_look_57 rfl (lv_at hl 0 rfl) ?_
      refine lv_iload_n hx hb dX1_look_58 rfl (lv_at hl 1 rfl) ?_
      refine kcallvU (f_X1_lookInside v1 (ls_0, ls_1, ls_2, ls_3, ls_4, ls_5, ls_6, ls_7, ls_8)) (fun u : ShS => (wSh cB cI cZ h ha0 ha1 ha2 u)) (fun u : ShS => [(h, .inr (0, [.ref ha0, .ref ha1, .ref ha2, .int u.2.2.2.1, .int u.2.2.2.2.1, .int u.2.2.2.2.2.1, .int u.2.2.2.2.2.2.1, .int u.2.2.2.2.2.2.2.1, .int u.2.2.2.2.2.2.2.2])), (ha0, .inl (cI, 3075, .inl u.1)), (ha1, .inl (cI, 41, .inl u.2.1)), (ha2, .inl (cZ, 41, .inl u.2.2.1))]) (wr := []) (krunVv (As := [.int v1]) (rest := []) ⟨hx, hb, hml, hown, hts⟩ (c_X1_lookInside l D cB cI cZ h ha0 ha1 ha2 (ls_0, ls_1, ls_2, ls_3, ls_4, ls_5, ls_6, ls_7, ls_8) v1 hm) (cwV 1 hts gX1_look_X1_lookInside rfl rfl rfl (by decide +kernel) ⟨Nat.le_of_ble_eq_true rfl, Nat.le_of_ble_eq_true rfl⟩) hE hK hP hD hS hA [0, 1, 2, 3] rfl (by decide) (ci := 0) (q0 := 0) rfl rfl rfl hl.1 rfl (Nat.le_of_ble_eq_true rfl) dX1_look_59 ⟨Nat.zero_le _, Nat.zero_le _⟩) hP hD hS hA [0, 1, 2, 3] [] [0, 1, 2, 3] rfl rfl (by decide) (by decide) (fun _ => rfl) (by decide) (fun u hu_3 H locs hP hD hS => ?_)
      obtain ⟨n3a_0, n3a_1, n3a_2, n3a_3, n3a_4, n3a_5, n3a_6, n3a_7, n3a_8⟩ := u
      have hP : va_P D vwCl [(h, .inr (0, [.ref ha0, .ref ha1, .ref ha2, .int n3a_3, .int n3a_4, .int n3a_5, .int n3a_6, .int n3a_7, .int n3a_8])), (ha0, .inl (cI, 3075, .inl n3a_0)), (ha1, .inl (cI, 41, .inl n3a_1)), (ha2, .inl (cZ, 41, .inl n3a_2))] H := hP
      have hD : va_D A [(h, .inr (0, [.ref ha0, .ref ha1, .ref ha2, .int n3a_3, .int n3a_4, .int n3a_5, .int n3a_6, .int n3a_7, .int n3a_8])), (ha0, .inl (cI, 3075, .inl n3a_0)), (ha1, .inl (cI, 41, .inl n3a_1)), (ha2, .inl (cZ, 41, .inl n3a_2))] := hD
      have hok_3 : shOK (n3a_0, n3a_1, n3a_2, n3a_3, n3a_4, n3a_5, n3a_6, n3a_7, n3a_8) := sh_lookInside hu_3 hm
      have hf : jn_X1_look_31 v1 (ls_0, ls_1, ls_2, ls_3, ls_4, ls_5, ls_6, ls_7, ls_8) = (n3a_0, n3a_1, n3a_2, n3a_3, n3a_4, n3a_5, n3a_6, n3a_7, n3a_8) := by simp only [jn_X1_look_31, hu_3, ↓if_neg c_1, ↓if_pos c_2]
      exact kretv hx hb hr hlocks hS hP hK hD dX1_look_62 (congrArg (fun u : ShS => wSh cB cI cZ h ha0 ha1 ha2 u) hf).symm
  · refine lv_aload_n hx hb dX1_look_38 rfl (lv_at hl 0 rfl) ?_
    refine kcallvU (f_X1_lose (ls_0, ls_1, ls_2, ls_3, ls_4, ls_5, ls_6, ls_7, ls_8)) (fun u : ShS => (wSh cB cI cZ h ha0 ha1 ha2 u)) (fun u : ShS => [(h, .inr (0, [.ref ha0, .ref ha1, .ref ha2, .int u.2.2.2.1, .int u.2.2.2.2.1, .int u.2.2.2.2.2.1, .int u.2.2.2.2.2.2.1, .int u.2.2.2.2.2.2.2.1, .int u.2.2.2.2.2.2.2.2])), (ha0, .inl (cI, 3075, .inl u.1)), (ha1, .inl (cI, 41, .inl u.2.1)), (ha2, .inl (cZ, 41, .inl u.2.2.1))]) (wr := []) (krunVv (As := []) (rest := []) ⟨hx, hb, hml, hown, hts⟩ (c_X1_lose l D cB cI cZ h ha0 ha1 ha2 (ls_0, ls_1, ls_2, ls_3, ls_4, ls_5, ls_6, ls_7, ls_8) hm) (cwV 0 hts gX1_look_X1_lose rfl rfl rfl (by decide +kernel) ⟨Nat.le_of_ble_eq_true rfl, Nat.le_of_ble_eq_true rfl⟩) hE hK hP hD hS hA [0, 1, 2, 3] rfl (by decide) (ci := 0) (q0 := 0) rfl rfl rfl hl.1 rfl (Nat.le_of_ble_eq_true rfl) dX1_look_39 ⟨Nat.zero_le _, Nat.zero_le _⟩) hP hD hS hA [0, 1, 2, 3] [] [0, 1, 2, 3] rfl rfl (by decide) (by decide) (fun _ => rfl) (by decide) (fun u hu_4 H locs hP hD hS => ?_)
    obtain ⟨n4a_0, n4a_1, n4a_2, n4a_3, n4a_4, n4a_5, n4a_6, n4a_7, n4a_8⟩ := u
    have hP : va_P D vwCl [(h, .inr (0, [.ref ha0, .ref ha1, .ref ha2, .int n4a_3, .int n4a_4, .int n4a_5, .int n4a_6, .int n4a_7, .int n4a_8])), (ha0, .inl (cI, 3075, .inl n4a_0)), (ha1, .inl (cI, 41, .inl n4a_1)), (ha2, .inl (cZ, 41, .inl n4a_2))] H := hP
    have hD : va_D A [(h, .inr (0, [.ref ha0, .ref ha1, .ref ha2, .int n4a_3, .int n4a_4, .int n4a_5, .int n4a_6, .int n4a_7, .int n4a_8])), (ha0, .inl (cI, 3075, .inl n4a_0)), (ha1, .inl (cI, 41, .inl n4a_1)), (ha2, .inl (cZ, 41, .inl n4a_2))] := hD
    have hok_4 : shOK (n4a_0, n4a_1, n4a_2, n4a_3, n4a_4, n4a_5, n4a_6, n4a_7, n4a_8) := sh_lose hu_4 hm
    refine lv_aload_n hx hb dX1_look_42 rfl (lv_at hl 0 rfl) ?_
    refine kcallvU (f_X1_begin (n4a_0, n4a_1, n4a_2, n4a_3, n4a_4, n4a_5, n4a_6, n4a_7, n4a_8)) (fun u : ShS => (wSh cB cI cZ h ha0 ha1 ha2 u)) (fun u : ShS => [(h, .inr (0, [.ref ha0, .ref ha1, .ref ha2, .int u.2.2.2.1, .int u.2.2.2.2.1, .int u.2.2.2.2.2.1, .int u.2.2.2.2.2.2.1, .int u.2.2.2.2.2.2.2.1, .int u.2.2.2.2.2.2.2.2])), (ha0, .inl (cI, 3075, .inl u.1)), (ha1, .inl (cI, 41, .inl u.2.1)), (ha2, .inl (cZ, 41, .inl u.2.2.1))]) (wr := []) (krunVv (As := []) (rest := []) ⟨hx, hb, hml, hown, hts⟩ (c_X1_begin l D cB cI cZ h ha0 ha1 ha2 (n4a_0, n4a_1, n4a_2, n4a_3, n4a_4, n4a_5, n4a_6, n4a_7, n4a_8) hok_4) (cwV 0 hts gX1_look_X1_begin rfl rfl rfl (by decide +kernel) ⟨Nat.le_of_ble_eq_true rfl, Nat.le_of_ble_eq_true rfl⟩) hE hK hP hD hS hA [0, 1, 2, 3] rfl (by decide) (ci := 0) (q0 := 0) rfl rfl rfl hl.1 rfl (Nat.le_of_ble_eq_true rfl) dX1_look_43 ⟨Nat.zero_le _, Nat.zero_le _⟩) hP hD hS hA [0, 1, 2, 3] [] [0, 1, 2, 3] rfl rfl (by decide) (by decide) (fun _ => rfl) (by decide) (fun u hu_5 H locs hP hD hS => ?_)
    obtain ⟨n5a_0, n5a_1, n5a_2, n5a_3, n5a_4, n5a_5, n5a_6, n5a_7, n5a_8⟩ := u
    have hP : va_P D vwCl [(h, .inr (0, [.ref ha0, .ref ha1, .ref ha2, .int n5a_3, .int n5a_4, .int n5a_5, .int n5a_6, .int n5a_7, .int n5a_8])), (ha0, .inl (cI, 3075, .inl n5a_0)), (ha1, .inl (cI, 41, .inl n5a_1)), (ha2, .inl (cZ, 41, .inl n5a_2))] H := hP
    have hD : va_D A [(h, .inr (0, [.ref ha0, .ref ha1, .ref ha2, .int n5a_3, .int n5a_4, .int n5a_5, .int n5a_6, .int n5a_7, .int n5a_8])), (ha0, .inl (cI, 3075, .inl n5a_0)), (ha1, .inl (cI, 41, .inl n5a_1)), (ha2, .inl (cZ, 41, .inl n5a_2))] := hD
    have hok_5 : shOK (n5a_0, n5a_1, n5a_2, n5a_3, n5a_4, n5a_5, n5a_6, n5a_7, n5a_8) := sh_begin hu_5 hok_4
    refine lv_goto (tgt := 62) hx hb dX1_look_46 (by decide) ?_
    have hf : jn_X1_look_31 v1 (ls_0, ls_1, ls_2, ls_3, ls_4, ls_5, ls_6, ls_7, ls_8) = (n5a_0, n5a_1, n5a_2, n5a_3, n5a_4, n5a_5, n5a_6, n5a_7, n5a_8) := by simp only [jn_X1_look_31, hu_4, hu_5, ↓if_pos c_1]
    exact kretv hx hb hr hlocks hS hP hK hD dX1_look_62 (congrArg (fun u : ShS => wSh cB cI cZ h ha0 ha1 ha2 u) hf).symm
def f_X1_look (what : Int32) (S : ShS) : ShS := match S with | (s_0, s_1, s_2, s_3, s_4, s_5, s_6, s_7, s_8) => (if s_5 = 2 then (if what = 503 then (if s_6 = 0 then (jn_X1_look_31 what (f_X1_finish 1 (s_0, s_1, s_2, s_3, s_4, s_5, s_6, s_7, s_8))) else (jn_X1_look_31 what (f_X1_finish 0 (s_0, s_1, s_2, s_3, s_4, s_5, s_6, s_7, s_8)))) else (jn_X1_look_31 what (f_X1_finish 0 (s_0, s_1, s_2, s_3, s_4, s_5, s_6, s_7, s_8)))) else (jn_X1_look_31 what (s_0, s_1, s_2, s_3, s_4, s_5, s_6, s_7, s_8)))
set_option maxHeartbeats 4000000 in
set_option maxRecDepth 100000 in
theorem c_X1_look (l : Launch) (D : va_G) (cB cI cZ : ClassId) (h ha0 ha1 ha2 : Nat) (S : ShS) (what : Int32) (hok : shOK S) : CtV l yX1_look wsX1_look rmX1_look D (tyv cB cI cZ) [.ref h, .int what] (wSh cB cI cZ h ha0 ha1 ha2 S) (wSh cB cI cZ h ha0 ha1 ha2 ((f_X1_look what S))) := by
  obtain ⟨s_0, s_1, s_2, s_3, s_4, s_5, s_6, s_7, s_8⟩ := S
  refine CtV.of (cc := cX1_look) (maxL := 2) (ret := none) (by decide +kernel) rfl (Nat.le_of_ble_eq_true rfl) ?_
  intro p e s m below meth c A ls hx hb hr hml hown hts hlocks hE hP hK hD hA hS hl
  have hown : s.vm.findClass RX1 = some m.cls := hown
  have hl : lv_has ls 2 [(0, .ref h), (1, .int what)] := hl
  have hP : va_P D vwCl [(h, .inr (0, [.ref ha0, .ref ha1, .ref ha2, .int s_3, .int s_4, .int s_5, .int s_6, .int s_7, .int s_8])), (ha0, .inl (cI, 3075, .inl s_0)), (ha1, .inl (cI, 41, .inl s_1)), (ha2, .inl (cZ, 41, .inl s_2))] s.heap := hP
  have hD : va_D A [(h, .inr (0, [.ref ha0, .ref ha1, .ref ha2, .int s_3, .int s_4, .int s_5, .int s_6, .int s_7, .int s_8])), (ha0, .inl (cI, 3075, .inl s_0)), (ha1, .inl (cI, 41, .inl s_1)), (ha2, .inl (cZ, 41, .inl s_2))] := hD
  have hiX1 : ∀ w ∈ wsX10, w ∈ wsX1_look := by decide +kernel
  have k29 := hts (.fieldLink RX1 29 "CodedGroups$FrameShelf" "state" "I") (by decide +kernel)
  have k32 := hts (.fieldLink RX1 32 "CodedGroups$FrameShelf" "broken" "Z") (by decide +kernel)
  refine lv_aload_n hx hb dX1_look_0 rfl (lv_at hl 0 rfl) ?_
  refine va_get (D := D) (ci := 0) (v := .int s_5) (C := RX1) (T := TX1) (N := 9) hx hb hts hiX1 hown hK hP 0 rfl rfl 5 (by decide) k29 (fun _ h9 => h9) rfl dX1_look_1 ?_
  refine lv_iconst (v := 2) hx hb dX1_look_4 (by decide) ?_
  refine lv_icmp_ne (tgt := 31) hx hb dX1_look_5 (by decide) (fun c_1 => ?_) (fun c_1 => ?_)
  · have hf : f_X1_look what (s_0, s_1, s_2, s_3, s_4, s_5, s_6, s_7, s_8) = jn_X1_look_31 what (s_0, s_1, s_2, s_3, s_4, s_5, s_6, s_7, s_8) := by simp only [f_X1_look, ↓if_neg c_1]
    rw [hf]
    exact jq_X1_look_31 l D cB cI cZ h ha0 ha1 ha2 hx hb hr hml hown hts hlocks hE hK hA  what s_0 s_1 s_2 s_3 s_4 s_5 s_6 s_7 s_8 (hok) _ _ hP hD hS ls (lv_sub hl [0, 1] rfl)
  · refine lv_aload_n hx hb dX1_look_8 rfl (lv_at hl 0 rfl) ?_
    refine lv_iload_n hx hb dX1_look_9 rfl (lv_at hl 1 rfl) ?_
    refine lv_sipush (v := 503) hx hb dX1_look_10 (by decide) ?_
    refine lv_icmp_ne (tgt := 27) hx hb dX1_look_13 (by decide) (fun c_2 => ?_) (fun c_2 => ?_)
    · refine lv_iconst (v := 0) hx hb dX1_look_27 (by decide) ?_
      refine kcallvU (f_X1_finish 0 (s_0, s_1, s_2, s_3, s_4, s_5, s_6, s_7, s_8)) (fun u : ShS => (wSh cB cI cZ h ha0 ha1 ha2 u)) (fun u : ShS => [(h, .inr (0, [.ref ha0, .ref ha1, .ref ha2, .int u.2.2.2.1, .int u.2.2.2.2.1, .int u.2.2.2.2.2.1, .int u.2.2.2.2.2.2.1, .int u.2.2.2.2.2.2.2.1, .int u.2.2.2.2.2.2.2.2])), (ha0, .inl (cI, 3075, .inl u.1)), (ha1, .inl (cI, 41, .inl u.2.1)), (ha2, .inl (cZ, 41, .inl u.2.2.1))]) (wr := []) (krunVv (As := [.int 0]) (rest := []) ⟨hx, hb, hml, hown, hts⟩ (c_X1_finish l D cB cI cZ h ha0 ha1 ha2 (s_0, s_1, s_2, s_3, s_4, s_5, s_6, s_7, s_8) 0 hok) (cwV 1 hts gX1_look_X1_finish rfl rfl rfl (by decide +kernel) ⟨Nat.le_of_ble_eq_true rfl, Nat.le_of_ble_eq_true rfl⟩) hE hK hP hD hS hA [0, 1, 2, 3] rfl (by decide) (ci := 0) (q0 := 0) rfl rfl rfl hl.1 rfl (Nat.le_of_ble_eq_true rfl) dX1_look_28 ⟨Nat.zero_le _, Nat.zero_le _⟩) hP hD hS hA [0, 1, 2, 3] [] [0, 1, 2, 3] rfl rfl (by decide) (by decide) (fun _ => rfl) (by decide) (fun u hu_3 H locs hP hD hS => ?_)
      obtain ⟨n3a_0, n3a_1, n3a_2, n3a_3, n3a_4, n3a_5, n3a_6, n3a_7, n3a_8⟩ := u
      have hP : va_P D vwCl [(h, .inr (0, [.ref ha0, .ref ha1, .ref ha2, .int n3a_3, .int n3a_4, .int n3a_5, .int n3a_6, .int n3a_7, .int n3a_8])), (ha0, .inl (cI, 3075, .inl n3a_0)), (ha1, .inl (cI, 41, .inl n3a_1)), (ha2, .inl (cZ, 41, .inl n3a_2))] H := hP
      have hD : va_D A [(h, .inr (0, [.ref ha0, .ref ha1, .ref ha2, .int n3a_3, .int n3a_4, .int n3a_5, .int n3a_6, .int n3a_7, .int n3a_8])), (ha0, .inl (cI, 3075, .inl n3a_0)), (ha1, .inl (cI, 41, .inl n3a_1)), (ha2, .inl (cZ, 41, .inl n3a_2))] := hD
      have hok_3 : shOK (n3a_0, n3a_1, n3a_2, n3a_3, n3a_4, n3a_5, n3a_6, n3a_7, n3a_8) := sh_finish hu_3 hok
      have hf : f_X1_look what (s_0, s_1, s_2, s_3, s_4, s_5, s_6, s_7, s_8) = jn_X1_look_31 what (n3a_0, n3a_1, n3a_2, n3a_3, n3a_4, n3a_5, n3a_6, n3a_7, n3a_8) := by simp only [f_X1_look, hu_3, ↓if_pos c_1, ↓if_neg c_2]
      rw [hf]
      exact jq_X1_look_31 l D cB cI cZ h ha0 ha1 ha2 hx hb hr hml hown hts hlocks hE hK hA  what n3a_0 n3a_1 n3a_2 n3a_3 n3a_4 n3a_5 n3a_6 n3a_7 n3a_8 (hok_3) _ _ hP hD hS ls (lv_sub hl [0, 1] rfl)
    · refine lv_aload_n hx hb dX1_look_16 rfl (lv_at hl 0 rfl) ?_
      refine va_get (D := D) (ci := 0) (v := .int s_6) (C := RX1) (T := TX1) (N := 9) hx hb hts hiX1 hown hK hP 0 rfl rfl 6 (by decide) k32 (fun _ h9 => h9) rfl dX1_look_17 ?_
      refine lv_if_ne (tgt := 27) hx hb dX1_look_20 (by decide) (fun c_4 => ?_) (fun c_4 => ?_)
      · refine lv_iconst (v := 0) hx hb dX1_look_27 (by decide) ?_
        refine kcallvU (f_X1_finish 0 (s_0, s_1, s_2, s_3, s_4, s_5, s_6, s_7, s_8)) (fun u : ShS => (wSh cB cI cZ h ha0 ha1 ha2 u)) (fun u : ShS => [(h, .inr (0, [.ref ha0, .ref ha1, .ref ha2, .int u.2.2.2.1, .int u.2.2.2.2.1, .int u.2.2.2.2.2.1, .int u.2.2.2.2.2.2.1, .int u.2.2.2.2.2.2.2.1, .int u.2.2.2.2.2.2.2.2])), (ha0, .inl (cI, 3075, .inl u.1)), (ha1, .inl (cI, 41, .inl u.2.1)), (ha2, .inl (cZ, 41, .inl u.2.2.1))]) (wr := []) (krunVv (As := [.int 0]) (rest := []) ⟨hx, hb, hml, hown, hts⟩ (c_X1_finish l D cB cI cZ h ha0 ha1 ha2 (s_0, s_1, s_2, s_3, s_4, s_5, s_6, s_7, s_8) 0 hok) (cwV 1 hts gX1_look_X1_finish rfl rfl rfl (by decide +kernel) ⟨Nat.le_of_ble_eq_true rfl, Nat.le_of_ble_eq_true rfl⟩) hE hK hP hD hS hA [0, 1, 2, 3] rfl (by decide) (ci := 0) (q0 := 0) rfl rfl rfl hl.1 rfl (Nat.le_of_ble_eq_true rfl) dX1_look_28 ⟨Nat.zero_le _, Nat.zero_le _⟩) hP hD hS hA [0, 1, 2, 3] [] [0, 1, 2, 3] rfl rfl (by decide) (by decide) (fun _ => rfl) (by decide) (fun u hu_5 H locs hP hD hS => ?_)
        obtain ⟨n5a_0, n5a_1, n5a_2, n5a_3, n5a_4, n5a_5, n5a_6, n5a_7, n5a_8⟩ := u
        have hP : va_P D vwCl [(h, .inr (0, [.ref ha0, .ref ha1, .ref ha2, .int n5a_3, .int n5a_4, .int n5a_5, .int n5a_6, .int n5a_7, .int n5a_8])), (ha0, .inl (cI, 3075, .inl n5a_0)), (ha1, .inl (cI, 41, .inl n5a_1)), (ha2, .inl (cZ, 41, .inl n5a_2))] H := hP
        have hD : va_D A [(h, .inr (0, [.ref ha0, .ref ha1, .ref ha2, .int n5a_3, .int n5a_4, .int n5a_5, .int n5a_6, .int n5a_7, .int n5a_8])), (ha0, .inl (cI, 3075, .inl n5a_0)), (ha1, .inl (cI, 41, .inl n5a_1)), (ha2, .inl (cZ, 41, .inl n5a_2))] := hD
        have hok_5 : shOK (n5a_0, n5a_1, n5a_2, n5a_3, n5a_4, n5a_5, n5a_6, n5a_7, n5a_8) := sh_finish hu_5 hok
        have hf : f_X1_look what (s_0, s_1, s_2, s_3, s_4, s_5, s_6, s_7, s_8) = jn_X1_look_31 what (n5a_0, n5a_1, n5a_2, n5a_3, n5a_4, n5a_5, n5a_6, n5a_7, n5a_8) := by simp only [f_X1_look, hu_5, ↓if_pos c_1, ↓if_pos c_2, ↓if_neg c_4]
        rw [hf]
        exact jq_X1_look_31 l D cB cI cZ h ha0 ha1 ha2 hx hb hr hml hown hts hlocks hE hK hA  what n5a_0 n5a_1 n5a_2 n5a_3 n5a_4 n5a_5 n5a_6 n5a_7 n5a_8 (hok_5) _ _ hP hD hS ls (lv_sub hl [0, 1] rfl)
      · refine lv_iconst (v := 1) hx hb dX1_look_23 (by decide) ?_
        refine lv_goto (tgt := 28) hx hb dX1_look_24 (by decide) ?_
        refine kcallvU (f_X1_finish 1 (s_0, s_1, s_2, s_3, s_4, s_5, s_6, s_7, s_8)) (fun u : ShS => (wSh cB cI cZ h ha0 ha1 ha2 u)) (fun u : ShS => [(h, .inr (0, [.ref ha0, .ref ha1, .ref ha2, .int u.2.2.2.1, .int u.2.2.2.2.1, .int u.2.2.2.2.2.1, .int u.2.2.2.2.2.2.1, .int u.2.2.2.2.2.2.2.1, .int u.2.2.2.2.2.2.2.2])), (ha0, .inl (cI, 3075, .inl u.1)), (ha1, .inl (cI, 41, .inl u.2.1)), (ha2, .inl (cZ, 41, .inl u.2.2.1))]) (wr := []) (krunVv (As := [.int 1]) (rest := []) ⟨hx, hb, hml, hown, hts⟩ (c_X1_finish l D cB cI cZ h ha0 ha1 ha2 (s_0, s_1, s_2, s_3, s_4, s_5, s_6, s_7, s_8) 1 hok) (cwV 1 hts gX1_look_X1_finish rfl rfl rfl (by decide +kernel) ⟨Nat.le_of_ble_eq_true rfl, Nat.le_of_ble_eq_true rfl⟩) hE hK hP hD hS hA [0, 1, 2, 3] rfl (by decide) (ci := 0) (q0 := 0) rfl rfl rfl hl.1 rfl (Nat.le_of_ble_eq_true rfl) dX1_look_28 ⟨Nat.zero_le _, Nat.zero_le _⟩) hP hD hS hA [0, 1, 2, 3] [] [0, 1, 2, 3] rfl rfl (by decide) (by decide) (fun _ => rfl) (by decide) (fun u hu_6 H locs hP hD hS => ?_)
        obtain ⟨n6a_0, n6a_1, n6a_2, n6a_3, n6a_4, n6a_5, n6a_6, n6a_7, n6a_8⟩ := u
        have hP : va_P D vwCl [(h, .inr (0, [.ref ha0, .ref ha1, .ref ha2, .int n6a_3, .int n6a_4, .int n6a_5, .int n6a_6, .int n6a_7, .int n6a_8])), (ha0, .inl (cI, 3075, .inl n6a_0)), (ha1, .inl (cI, 41, .inl n6a_1)), (ha2, .inl (cZ, 41, .inl n6a_2))] H := hP
        have hD : va_D A [(h, .inr (0, [.ref ha0, .ref ha1, .ref ha2, .int n6a_3, .int n6a_4, .int n6a_5, .int n6a_6, .int n6a_7, .int n6a_8])), (ha0, .inl (cI, 3075, .inl n6a_0)), (ha1, .inl (cI, 41, .inl n6a_1)), (ha2, .inl (cZ, 41, .inl n6a_2))] := hD
        have hok_6 : shOK (n6a_0, n6a_1, n6a_2, n6a_3, n6a_4, n6a_5, n6a_6, n6a_7, n6a_8) := sh_finish hu_6 hok
        have hf : f_X1_look what (s_0, s_1, s_2, s_3, s_4, s_5, s_6, s_7, s_8) = jn_X1_look_31 what (n6a_0, n6a_1, n6a_2, n6a_3, n6a_4, n6a_5, n6a_6, n6a_7, n6a_8) := by simp only [f_X1_look, hu_6, ↓if_pos c_1, ↓if_pos c_2, ↓if_pos c_4]
        rw [hf]
        exact jq_X1_look_31 l D cB cI cZ h ha0 ha1 ha2 hx hb hr hml hown hts hlocks hE hK hA  what n6a_0 n6a_1 n6a_2 n6a_3 n6a_4 n6a_5 n6a_6 n6a_7 n6a_8 (hok_6) _ _ hP hD hS ls (lv_sub hl [0, 1] rfl)

theorem sh_jlook {w : Int32} {S u : ShS} (e : jn_X1_look_31 w S = u) (h : shOK S) : shOK u := by
  subst e
  obtain ⟨s_0, s_1, s_2, s_3, s_4, s_5, s_6, s_7, s_8⟩ := S
  simp only [jn_X1_look_31]
  split
  · exact sh_begin rfl (sh_lose rfl h)
  · split
    · exact sh_lookInside rfl h
    · exact h
theorem sh_look {w : Int32} {S u : ShS} (e : f_X1_look w S = u) (h : shOK S) : shOK u := by
  subst e
  obtain ⟨s_0, s_1, s_2, s_3, s_4, s_5, s_6, s_7, s_8⟩ := S
  simp only [f_X1_look]
  repeat' split
  all_goals first | exact sh_jlook rfl h | exact sh_jlook rfl (sh_finish rfl h)

abbrev rmX1_slotOf : Room := { frames := 1, cells := 0, slots := 0, locals := 22 }
def f_X1_slotOf (k : Int32) (S : ShS) : Int32 := match S with | (s_0, s_1, s_2, s_3, s_4, s_5, s_6, s_7, s_8) => (f_J9_floorMod_7cf53 (((s_3 - s_4) + k)) 41)
set_option maxHeartbeats 4000000 in
set_option maxRecDepth 100000 in
theorem c_X1_slotOf (l : Launch) (D : va_G) (cB cI cZ : ClassId) (h ha0 ha1 ha2 : Nat) (S : ShS) (k : Int32) : CtI l yX1_slotOf wsX1_slotOf rmX1_slotOf D (tyv cB cI cZ) [.ref h, .int k] (f_X1_slotOf k S) (wSh cB cI cZ h ha0 ha1 ha2 S) (wSh cB cI cZ h ha0 ha1 ha2 S) := by
  obtain ⟨s_0, s_1, s_2, s_3, s_4, s_5, s_6, s_7, s_8⟩ := S
  refine CtI.of (cc := cX1_slotOf) (maxL := 2) (ret := (some .int)) (by decide +kernel) rfl (Nat.le_of_ble_eq_true rfl) ?_
  intro p e s m below meth c A ls hx hb hr hml hown hts hlocks hE hP hK hD hA hS hl
  have hown : s.vm.findClass RX1 = some m.cls := hown
  have hl : lv_has ls 2 [(0, .ref h), (1, .int k)] := hl
  have hP : va_P D vwCl [(h, .inr (0, [.ref ha0, .ref ha1, .ref ha2, .int s_3, .int s_4, .int s_5, .int s_6, .int s_7, .int s_8])), (ha0, .inl (cI, 3075, .inl s_0)), (ha1, .inl (cI, 41, .inl s_1)), (ha2, .inl (cZ, 41, .inl s_2))] s.heap := hP
  have hD : va_D A [(h, .inr (0, [.ref ha0, .ref ha1, .ref ha2, .int s_3, .int s_4, .int s_5, .int s_6, .int s_7, .int s_8])), (ha0, .inl (cI, 3075, .inl s_0)), (ha1, .inl (cI, 41, .inl s_1)), (ha2, .inl (cZ, 41, .inl s_2))] := hD
  have hiX1 : ∀ w ∈ wsX10, w ∈ wsX1_slotOf := by decide +kernel
  have k22 := hts (.fieldLink RX1 22 "CodedGroups$FrameShelf" "slot" "I") (by decide +kernel)
  have k26 := hts (.fieldLink RX1 26 "CodedGroups$FrameShelf" "kept" "I") (by decide +kernel)
  refine lv_aload_n hx hb dX1_slotOf_0 rfl (lv_at hl 0 rfl) ?_
  refine va_get (D := D) (ci := 0) (v := .int s_3) (C := RX1) (T := TX1) (N := 9) hx hb hts hiX1 hown hK hP 0 rfl rfl 3 (by decide) k22 (fun _ h9 => h9) rfl dX1_slotOf_1 ?_
  refine lv_aload_n hx hb dX1_slotOf_4 rfl (lv_at hl 0 rfl) ?_
  refine va_get (D := D) (ci := 0) (v := .int s_4) (C := RX1) (T := TX1) (N := 9) hx hb hts hiX1 hown hK hP 0 rfl rfl 4 (by decide) k26 (fun _ h9 => h9) rfl dX1_slotOf_5 ?_
  refine lv_isub hx hb dX1_slotOf_8 ?_
  refine lv_iload_n hx hb dX1_slotOf_9 rfl (lv_at hl 1 rfl) ?_
  refine lv_iadd hx hb dX1_slotOf_10 ?_
  refine lv_bipush (v := 41) hx hb dX1_slotOf_11 (by decide) ?_
  refine kcall0 (krunS (As := [.int ((s_3 - s_4) + k), .int 41]) (rest := []) ⟨hx, hb, hml, hown, hts⟩ (c_J9_floorMod_7cf53 l D cB cI cZ (((s_3 - s_4) + k)) 41 (by decide)) (va_cwS 2 hts gX1_slotOf_J9_floorMod_7cf53 rfl rfl rfl (by decide +kernel) ⟨Nat.le_of_ble_eq_true rfl, Nat.le_of_ble_eq_true rfl⟩) hE hK hP hD hS hA [] rfl (by decide) rfl hl.1 rfl (Nat.le_of_ble_eq_true rfl) dX1_slotOf_13 ⟨Nat.zero_le _, Nat.zero_le _⟩) hP hS hA (fun H locs hP hS => ?_)
  have hf : f_X1_slotOf k (s_0, s_1, s_2, s_3, s_4, s_5, s_6, s_7, s_8) = (f_J9_floorMod_7cf53 (((s_3 - s_4) + k)) 41) := by simp only [f_X1_slotOf]
  exact kreti hx hb hr hlocks hS hP hK hD dX1_slotOf_16 hf.symm rfl

abbrev rmX1_has : Room := { frames := 0, cells := 0, slots := 0, locals := 0 }
def f_X1_has (k : Int32) (S : ShS) : Int32 := match S with | (s_0, s_1, s_2, s_3, s_4, s_5, s_6, s_7, s_8) => (if k < 0 then 0 else (if s_4 ≤ k then 0 else 1))
set_option maxHeartbeats 4000000 in
set_option maxRecDepth 100000 in
theorem c_X1_has (l : Launch) (D : va_G) (cB cI cZ : ClassId) (h ha0 ha1 ha2 : Nat) (S : ShS) (k : Int32) : CtI l yX1_has wsX1_has rmX1_has D (tyv cB cI cZ) [.ref h, .int k] (f_X1_has k S) (wSh cB cI cZ h ha0 ha1 ha2 S) (wSh cB cI cZ h ha0 ha1 ha2 S) := by
  obtain ⟨s_0, s_1, s_2, s_3, s_4, s_5, s_6, s_7, s_8⟩ := S
  refine CtI.of (cc := cX1_has) (maxL := 2) (ret := (some .boolean)) (by decide +kernel) rfl (Nat.le_of_ble_eq_true rfl) ?_
  intro p e s m below meth c A ls hx hb hr hml hown hts hlocks hE hP hK hD hA hS hl
  have hown : s.vm.findClass RX1 = some m.cls := hown
  have hl : lv_has ls 2 [(0, .ref h), (1, .int k)] := hl
  have hP : va_P D vwCl [(h, .inr (0, [.ref ha0, .ref ha1, .ref ha2, .int s_3, .int s_4, .int s_5, .int s_6, .int s_7, .int s_8])), (ha0, .inl (cI, 3075, .inl s_0)), (ha1, .inl (cI, 41, .inl s_1)), (ha2, .inl (cZ, 41, .inl s_2))] s.heap := hP
  have hD : va_D A [(h, .inr (0, [.ref ha0, .ref ha1, .ref ha2, .int s_3, .int s_4, .int s_5, .int s_6, .int s_7, .int s_8])), (ha0, .inl (cI, 3075, .inl s_0)), (ha1, .inl (cI, 41, .inl s_1)), (ha2, .inl (cZ, 41, .inl s_2))] := hD
  have hiX1 : ∀ w ∈ wsX10, w ∈ wsX1_has := by decide +kernel
  have k26 := hts (.fieldLink RX1 26 "CodedGroups$FrameShelf" "kept" "I") (by decide +kernel)
  refine lv_iload_n hx hb dX1_has_0 rfl (lv_at hl 1 rfl) ?_
  refine lv_if_lt (tgt := 16) hx hb dX1_has_1 (by decide) (fun c_1 => ?_) (fun c_1 => ?_)
  · refine lv_iconst (v := 0) hx hb dX1_has_16 (by decide) ?_
    have hf : f_X1_has k (s_0, s_1, s_2, s_3, s_4, s_5, s_6, s_7, s_8) = 0 := by simp only [f_X1_has, ↓if_pos c_1]
    exact kretz hx hb hr hlocks hS hP hK hD dX1_has_17 (by rfl) hf.symm rfl
  · refine lv_iload_n hx hb dX1_has_4 rfl (lv_at hl 1 rfl) ?_
    refine lv_aload_n hx hb dX1_has_5 rfl (lv_at hl 0 rfl) ?_
    refine va_get (D := D) (ci := 0) (v := .int s_4) (C := RX1) (T := TX1) (N := 9) hx hb hts hiX1 hown hK hP 0 rfl rfl 4 (by decide) k26 (fun _ h9 => h9) rfl dX1_has_6 ?_
    refine lv_icmp_ge (tgt := 16) hx hb dX1_has_9 (by decide) (fun c_2 => ?_) (fun c_2 => ?_)
    · refine lv_iconst (v := 0) hx hb dX1_has_16 (by decide) ?_
      have hf : f_X1_has k (s_0, s_1, s_2, s_3, s_4, s_5, s_6, s_7, s_8) = 0 := by simp only [f_X1_has, ↓if_neg c_1, ↓if_pos c_2]
      exact kretz hx hb hr hlocks hS hP hK hD dX1_has_17 (by rfl) hf.symm rfl
    · refine lv_iconst (v := 1) hx hb dX1_has_12 (by decide) ?_
      refine lv_goto (tgt := 17) hx hb dX1_has_13 (by decide) ?_
      have hf : f_X1_has k (s_0, s_1, s_2, s_3, s_4, s_5, s_6, s_7, s_8) = 1 := by simp only [f_X1_has, ↓if_neg c_1, ↓if_neg c_2]
      exact kretz hx hb hr hlocks hS hP hK hD dX1_has_17 (by rfl) hf.symm rfl

abbrev rmX1_lengthOf : Room := { frames := 2, cells := 0, slots := 0, locals := 43 }
def f_X1_lengthOf (k : Int32) (S : ShS) : Int32 := match S with | (s_0, s_1, s_2, s_3, s_4, s_5, s_6, s_7, s_8) => (if (f_X1_has k (s_0, s_1, s_2, s_3, s_4, s_5, s_6, s_7, s_8)) = 0 then (-1) else (s_1 ((f_X1_slotOf k (s_0, s_1, s_2, s_3, s_4, s_5, s_6, s_7, s_8))).toNatClampNeg))
set_option maxHeartbeats 4000000 in
set_option maxRecDepth 100000 in
theorem c_X1_lengthOf (l : Launch) (D : va_G) (cB cI cZ : ClassId) (h ha0 ha1 ha2 : Nat) (S : ShS) (k : Int32) : CtI l yX1_lengthOf wsX1_lengthOf rmX1_lengthOf D (tyv cB cI cZ) [.ref h, .int k] (f_X1_lengthOf k S) (wSh cB cI cZ h ha0 ha1 ha2 S) (wSh cB cI cZ h ha0 ha1 ha2 S) := by
  obtain ⟨s_0, s_1, s_2, s_3, s_4, s_5, s_6, s_7, s_8⟩ := S
  refine CtI.of (cc := cX1_lengthOf) (maxL := 2) (ret := (some .int)) (by decide +kernel) rfl (Nat.le_of_ble_eq_true rfl) ?_
  intro p e s m below meth c A ls hx hb hr hml hown hts hlocks hE hP hK hD hA hS hl
  have hown : s.vm.findClass RX1 = some m.cls := hown
  have hl : lv_has ls 2 [(0, .ref h), (1, .int k)] := hl
  have hP : va_P D vwCl [(h, .inr (0, [.ref ha0, .ref ha1, .ref ha2, .int s_3, .int s_4, .int s_5, .int s_6, .int s_7, .int s_8])), (ha0, .inl (cI, 3075, .inl s_0)), (ha1, .inl (cI, 41, .inl s_1)), (ha2, .inl (cZ, 41, .inl s_2))] s.heap := hP
  have hD : va_D A [(h, .inr (0, [.ref ha0, .ref ha1, .ref ha2, .int s_3, .int s_4, .int s_5, .int s_6, .int s_7, .int s_8])), (ha0, .inl (cI, 3075, .inl s_0)), (ha1, .inl (cI, 41, .inl s_1)), (ha2, .inl (cZ, 41, .inl s_2))] := hD
  have hiX1 : ∀ w ∈ wsX10, w ∈ wsX1_lengthOf := by decide +kernel
  have k15 := hts (.fieldLink RX1 15 "CodedGroups$FrameShelf" "lengths" "[I") (by decide +kernel)
  refine lv_aload_n hx hb dX1_lengthOf_0 rfl (lv_at hl 0 rfl) ?_
  refine lv_iload_n hx hb dX1_lengthOf_1 rfl (lv_at hl 1 rfl) ?_
  refine kcalli (wr := []) (ws' := [(h, .inr (0, [.ref ha0, .ref ha1, .ref ha2, .int s_3, .int s_4, .int s_5, .int s_6, .int s_7, .int s_8])), (ha0, .inl (cI, 3075, .inl s_0)), (ha1, .inl (cI, 41, .inl s_1)), (ha2, .inl (cZ, 41, .inl s_2))]) (krunV (As := [.int k]) (rest := []) ⟨hx, hb, hml, hown, hts⟩ (c_X1_has l D cB cI cZ h ha0 ha1 ha2 (s_0, s_1, s_2, s_3, s_4, s_5, s_6, s_7, s_8) k) (cwV 1 hts gX1_lengthOf_X1_has rfl rfl rfl (by decide +kernel) ⟨Nat.le_of_ble_eq_true rfl, Nat.le_of_ble_eq_true rfl⟩) hE hK hP hD hS hA [0, 1, 2, 3] rfl (by decide) (ci := 0) (q0 := 0) rfl rfl rfl hl.1 rfl (Nat.le_of_ble_eq_true rfl) dX1_lengthOf_2 ⟨Nat.zero_le _, Nat.zero_le _⟩) hP hD hS hA [0, 1, 2, 3] [] [0, 1, 2, 3] rfl rfl (by decide) (by decide) rfl (by decide) (fun H locs hP hD hS => ?_)
  refine lv_if_eq (tgt := 21) hx hb dX1_lengthOf_5 (by decide) (fun c_1 => ?_) (fun c_1 => ?_)
  · refine lv_iconst (v := (-1)) hx hb dX1_lengthOf_21 (by decide) ?_
    have hf : f_X1_lengthOf k (s_0, s_1, s_2, s_3, s_4, s_5, s_6, s_7, s_8) = (-1) := by simp only [f_X1_lengthOf, ↓if_pos c_1]
    exact kreti hx hb hr hlocks hS hP hK hD dX1_lengthOf_22 hf.symm rfl
  · refine lv_aload_n hx hb dX1_lengthOf_8 rfl (lv_at hl 0 rfl) ?_
    refine va_get (D := D) (ci := 0) (v := .ref ha1) (C := RX1) (T := TX1) (N := 9) hx hb hts hiX1 hown hK hP 0 rfl rfl 1 (by decide) k15 (fun _ h9 => h9) rfl dX1_lengthOf_9 ?_
    refine lv_aload_n hx hb dX1_lengthOf_12 rfl (lv_at hl 0 rfl) ?_
    refine lv_iload_n hx hb dX1_lengthOf_13 rfl (lv_at hl 1 rfl) ?_
    refine kcalli (wr := []) (ws' := [(h, .inr (0, [.ref ha0, .ref ha1, .ref ha2, .int s_3, .int s_4, .int s_5, .int s_6, .int s_7, .int s_8])), (ha0, .inl (cI, 3075, .inl s_0)), (ha1, .inl (cI, 41, .inl s_1)), (ha2, .inl (cZ, 41, .inl s_2))]) (krunV (As := [.int k]) (rest := [.ref ha1]) ⟨hx, hb, hml, hown, hts⟩ (c_X1_slotOf l D cB cI cZ h ha0 ha1 ha2 (s_0, s_1, s_2, s_3, s_4, s_5, s_6, s_7, s_8) k) (cwV 1 hts gX1_lengthOf_X1_slotOf rfl rfl rfl (by decide +kernel) ⟨Nat.le_of_ble_eq_true rfl, Nat.le_of_ble_eq_true rfl⟩) hE hK hP hD hS hA [0, 1, 2, 3] rfl (by decide) (ci := 0) (q0 := 0) rfl rfl rfl hl.1 rfl (Nat.le_of_ble_eq_true rfl) dX1_lengthOf_14 ⟨Nat.zero_le _, Nat.zero_le _⟩) hP hD hS hA [0, 1, 2, 3] [] [0, 1, 2, 3] rfl rfl (by decide) (by decide) rfl (by decide) (fun H locs hP hD hS => ?_)
    have h_2 : vp_in ((f_X1_slotOf k (s_0, s_1, s_2, s_3, s_4, s_5, s_6, s_7, s_8))) 41 := vp_in_iff.mpr (by have q := fm_41 ((s_3 - s_4) + k); simp only [f_X1_slotOf]; exact q)
    refine va_iald hx hb hK hP 2 1 rfl rfl h_2 dX1_lengthOf_17 ?_
    refine lv_goto (tgt := 22) hx hb dX1_lengthOf_18 (by decide) ?_
    have hf : f_X1_lengthOf k (s_0, s_1, s_2, s_3, s_4, s_5, s_6, s_7, s_8) = (s_1 ((f_X1_slotOf k (s_0, s_1, s_2, s_3, s_4, s_5, s_6, s_7, s_8))).toNatClampNeg) := by simp only [f_X1_lengthOf, ↓if_neg c_1]
    exact kreti hx hb hr hlocks hS hP hK hD dX1_lengthOf_22 hf.symm rfl

abbrev rmX1_isWhole : Room := { frames := 2, cells := 0, slots := 0, locals := 43 }
def f_X1_isWhole (k : Int32) (S : ShS) : Int32 := match S with | (s_0, s_1, s_2, s_3, s_4, s_5, s_6, s_7, s_8) => (if (f_X1_has k (s_0, s_1, s_2, s_3, s_4, s_5, s_6, s_7, s_8)) = 0 then 0 else (if (s_2 ((f_X1_slotOf k (s_0, s_1, s_2, s_3, s_4, s_5, s_6, s_7, s_8))).toNatClampNeg) = 0 then 0 else 1))
set_option maxHeartbeats 4000000 in
set_option maxRecDepth 100000 in
theorem c_X1_isWhole (l : Launch) (D : va_G) (cB cI cZ : ClassId) (h ha0 ha1 ha2 : Nat) (S : ShS) (k : Int32) : CtI l yX1_isWhole wsX1_isWhole rmX1_isWhole D (tyv cB cI cZ) [.ref h, .int k] (f_X1_isWhole k S) (wSh cB cI cZ h ha0 ha1 ha2 S) (wSh cB cI cZ h ha0 ha1 ha2 S) := by
  obtain ⟨s_0, s_1, s_2, s_3, s_4, s_5, s_6, s_7, s_8⟩ := S
  refine CtI.of (cc := cX1_isWhole) (maxL := 2) (ret := (some .boolean)) (by decide +kernel) rfl (Nat.le_of_ble_eq_true rfl) ?_
  intro p e s m below meth c A ls hx hb hr hml hown hts hlocks hE hP hK hD hA hS hl
  have hown : s.vm.findClass RX1 = some m.cls := hown
  have hl : lv_has ls 2 [(0, .ref h), (1, .int k)] := hl
  have hP : va_P D vwCl [(h, .inr (0, [.ref ha0, .ref ha1, .ref ha2, .int s_3, .int s_4, .int s_5, .int s_6, .int s_7, .int s_8])), (ha0, .inl (cI, 3075, .inl s_0)), (ha1, .inl (cI, 41, .inl s_1)), (ha2, .inl (cZ, 41, .inl s_2))] s.heap := hP
  have hD : va_D A [(h, .inr (0, [.ref ha0, .ref ha1, .ref ha2, .int s_3, .int s_4, .int s_5, .int s_6, .int s_7, .int s_8])), (ha0, .inl (cI, 3075, .inl s_0)), (ha1, .inl (cI, 41, .inl s_1)), (ha2, .inl (cZ, 41, .inl s_2))] := hD
  have hiX1 : ∀ w ∈ wsX10, w ∈ wsX1_isWhole := by decide +kernel
  have k18 := hts (.fieldLink RX1 18 "CodedGroups$FrameShelf" "wholes" "[Z") (by decide +kernel)
  refine lv_aload_n hx hb dX1_isWhole_0 rfl (lv_at hl 0 rfl) ?_
  refine lv_iload_n hx hb dX1_isWhole_1 rfl (lv_at hl 1 rfl) ?_
  refine kcalli (wr := []) (ws' := [(h, .inr (0, [.ref ha0, .ref ha1, .ref ha2, .int s_3, .int s_4, .int s_5, .int s_6, .int s_7, .int s_8])), (ha0, .inl (cI, 3075, .inl s_0)), (ha1, .inl (cI, 41, .inl s_1)), (ha2, .inl (cZ, 41, .inl s_2))]) (krunV (As := [.int k]) (rest := []) ⟨hx, hb, hml, hown, hts⟩ (c_X1_has l D cB cI cZ h ha0 ha1 ha2 (s_0, s_1, s_2, s_3, s_4, s_5, s_6, s_7, s_8) k) (cwV 1 hts gX1_isWhole_X1_has rfl rfl rfl (by decide +kernel) ⟨Nat.le_of_ble_eq_true rfl, Nat.le_of_ble_eq_true rfl⟩) hE hK hP hD hS hA [0, 1, 2, 3] rfl (by decide) (ci := 0) (q0 := 0) rfl rfl rfl hl.1 rfl (Nat.le_of_ble_eq_true rfl) dX1_isWhole_2 ⟨Nat.zero_le _, Nat.zero_le _⟩) hP hD hS hA [0, 1, 2, 3] [] [0, 1, 2, 3] rfl rfl (by decide) (by decide) rfl (by decide) (fun H locs hP hD hS => ?_)
  refine lv_if_eq (tgt := 25) hx hb dX1_isWhole_5 (by decide) (fun c_1 => ?_) (fun c_1 => ?_)
  · refine lv_iconst (v := 0) hx hb dX1_isWhole_25 (by decide) ?_
    have hf : f_X1_isWhole k (s_0, s_1, s_2, s_3, s_4, s_5, s_6, s_7, s_8) = 0 := by simp only [f_X1_isWhole, ↓if_pos c_1]
    exact kretz hx hb hr hlocks hS hP hK hD dX1_isWhole_26 (by rfl) hf.symm rfl
  · refine lv_aload_n hx hb dX1_isWhole_8 rfl (lv_at hl 0 rfl) ?_
    refine va_get (D := D) (ci := 0) (v := .ref ha2) (C := RX1) (T := TX1) (N := 9) hx hb hts hiX1 hown hK hP 0 rfl rfl 2 (by decide) k18 (fun _ h9 => h9) rfl dX1_isWhole_9 ?_
    refine lv_aload_n hx hb dX1_isWhole_12 rfl (lv_at hl 0 rfl) ?_
    refine lv_iload_n hx hb dX1_isWhole_13 rfl (lv_at hl 1 rfl) ?_
    refine kcalli (wr := []) (ws' := [(h, .inr (0, [.ref ha0, .ref ha1, .ref ha2, .int s_3, .int s_4, .int s_5, .int s_6, .int s_7, .int s_8])), (ha0, .inl (cI, 3075, .inl s_0)), (ha1, .inl (cI, 41, .inl s_1)), (ha2, .inl (cZ, 41, .inl s_2))]) (krunV (As := [.int k]) (rest := [.ref ha2]) ⟨hx, hb, hml, hown, hts⟩ (c_X1_slotOf l D cB cI cZ h ha0 ha1 ha2 (s_0, s_1, s_2, s_3, s_4, s_5, s_6, s_7, s_8) k) (cwV 1 hts gX1_isWhole_X1_slotOf rfl rfl rfl (by decide +kernel) ⟨Nat.le_of_ble_eq_true rfl, Nat.le_of_ble_eq_true rfl⟩) hE hK hP hD hS hA [0, 1, 2, 3] rfl (by decide) (ci := 0) (q0 := 0) rfl rfl rfl hl.1 rfl (Nat.le_of_ble_eq_true rfl) dX1_isWhole_14 ⟨Nat.zero_le _, Nat.zero_le _⟩) hP hD hS hA [0, 1, 2, 3] [] [0, 1, 2, 3] rfl rfl (by decide) (by decide) rfl (by decide) (fun H locs hP hD hS => ?_)
    have h_2 : vp_in ((f_X1_slotOf k (s_0, s_1, s_2, s_3, s_4, s_5, s_6, s_7, s_8))) 41 := vp_in_iff.mpr (by have q := fm_41 ((s_3 - s_4) + k); simp only [f_X1_slotOf]; exact q)
    refine va_zald hx hb hK hP 3 2 rfl rfl h_2 dX1_isWhole_17 ?_
    refine lv_if_eq (tgt := 25) hx hb dX1_isWhole_18 (by decide) (fun c_3 => ?_) (fun c_3 => ?_)
    · refine lv_iconst (v := 0) hx hb dX1_isWhole_25 (by decide) ?_
      have hf : f_X1_isWhole k (s_0, s_1, s_2, s_3, s_4, s_5, s_6, s_7, s_8) = 0 := by simp only [f_X1_isWhole, ↓if_neg c_1, ↓if_pos c_3]
      exact kretz hx hb hr hlocks hS hP hK hD dX1_isWhole_26 (by rfl) hf.symm rfl
    · refine lv_iconst (v := 1) hx hb dX1_isWhole_21 (by decide) ?_
      refine lv_goto (tgt := 26) hx hb dX1_isWhole_22 (by decide) ?_
      have hf : f_X1_isWhole k (s_0, s_1, s_2, s_3, s_4, s_5, s_6, s_7, s_8) = 1 := by simp only [f_X1_isWhole, ↓if_neg c_1, ↓if_neg c_3]
      exact kretz hx hb hr hlocks hS hP hK hD dX1_isWhole_26 (by rfl) hf.symm rfl

abbrev rmX1_byteOf : Room := { frames := 3, cells := 0, slots := 0, locals := 64 }
def f_X1_byteOf (k : Int32) (i : Int32) (S : ShS) : Int32 := match S with | (s_0, s_1, s_2, s_3, s_4, s_5, s_6, s_7, s_8) => (if i < 0 then (-1) else (if (300 : Int32) ≤ i then (-1) else (if i < (f_X1_lengthOf k (s_0, s_1, s_2, s_3, s_4, s_5, s_6, s_7, s_8)) then (letv ((((f_X1_slotOf k (s_0, s_1, s_2, s_3, s_4, s_5, s_6, s_7, s_8)) * 75) + (i >>> ((2 : Int32) &&& 31)))) (fun x_4 => (((s_0 (x_4).toNatClampNeg) >>> ((((i &&& 3) * 8) : Int32) &&& 31)) &&& 255))) else (-1))))
set_option maxHeartbeats 4000000 in
set_option maxRecDepth 100000 in
theorem c_X1_byteOf (l : Launch) (D : va_G) (cB cI cZ : ClassId) (h ha0 ha1 ha2 : Nat) (S : ShS) (k : Int32) (i : Int32) : CtI l yX1_byteOf wsX1_byteOf rmX1_byteOf D (tyv cB cI cZ) [.ref h, .int k, .int i] (f_X1_byteOf k i S) (wSh cB cI cZ h ha0 ha1 ha2 S) (wSh cB cI cZ h ha0 ha1 ha2 S) := by
  obtain ⟨s_0, s_1, s_2, s_3, s_4, s_5, s_6, s_7, s_8⟩ := S
  refine CtI.of (cc := cX1_byteOf) (maxL := 4) (ret := (some .int)) (by decide +kernel) rfl (Nat.le_of_ble_eq_true rfl) ?_
  intro p e s m below meth c A ls hx hb hr hml hown hts hlocks hE hP hK hD hA hS hl
  have hown : s.vm.findClass RX1 = some m.cls := hown
  have hl : lv_has ls 4 [(0, .ref h), (1, .int k), (2, .int i)] := hl
  have hP : va_P D vwCl [(h, .inr (0, [.ref ha0, .ref ha1, .ref ha2, .int s_3, .int s_4, .int s_5, .int s_6, .int s_7, .int s_8])), (ha0, .inl (cI, 3075, .inl s_0)), (ha1, .inl (cI, 41, .inl s_1)), (ha2, .inl (cZ, 41, .inl s_2))] s.heap := hP
  have hD : va_D A [(h, .inr (0, [.ref ha0, .ref ha1, .ref ha2, .int s_3, .int s_4, .int s_5, .int s_6, .int s_7, .int s_8])), (ha0, .inl (cI, 3075, .inl s_0)), (ha1, .inl (cI, 41, .inl s_1)), (ha2, .inl (cZ, 41, .inl s_2))] := hD
  have hiX1 : ∀ w ∈ wsX10, w ∈ wsX1_byteOf := by decide +kernel
  have k11 := hts (.fieldLink RX1 11 "CodedGroups$FrameShelf" "words" "[I") (by decide +kernel)
  refine lv_iload_n hx hb dX1_byteOf_0 rfl (lv_at hl 2 rfl) ?_
  refine lv_if_lt (tgt := 20) hx hb dX1_byteOf_1 (by decide) (fun c_1 => ?_) (fun c_1 => ?_)
  · refine lv_iconst (v := (-1)) hx hb dX1_byteOf_20 (by decide) ?_
    have hf : f_X1_byteOf k i (s_0, s_1, s_2, s_3, s_4, s_5, s_6, s_7, s_8) = (-1) := by simp only [f_X1_byteOf, ↓if_pos c_1]
    exact kreti hx hb hr hlocks hS hP hK hD dX1_byteOf_21 hf.symm rfl
  · refine lv_iload_n hx hb dX1_byteOf_4 rfl (lv_at hl 2 rfl) ?_
    refine lv_sipush (v := 300) hx hb dX1_byteOf_5 (by decide) ?_
    refine lv_icmp_ge (tgt := 20) hx hb dX1_byteOf_8 (by decide) (fun c_2 => ?_) (fun c_2 => ?_)
    · refine lv_iconst (v := (-1)) hx hb dX1_byteOf_20 (by decide) ?_
      have hf : f_X1_byteOf k i (s_0, s_1, s_2, s_3, s_4, s_5, s_6, s_7, s_8) = (-1) := by simp only [f_X1_byteOf, ↓if_neg c_1, ↓if_pos c_2]
      exact kreti hx hb hr hlocks hS hP hK hD dX1_byteOf_21 hf.symm rfl
    · refine lv_iload_n hx hb dX1_byteOf_11 rfl (lv_at hl 2 rfl) ?_
      refine lv_aload_n hx hb dX1_byteOf_12 rfl (lv_at hl 0 rfl) ?_
      refine lv_iload_n hx hb dX1_byteOf_13 rfl (lv_at hl 1 rfl) ?_
      refine kcalli (wr := []) (ws' := [(h, .inr (0, [.ref ha0, .ref ha1, .ref ha2, .int s_3, .int s_4, .int s_5, .int s_6, .int s_7, .int s_8])), (ha0, .inl (cI, 3075, .inl s_0)), (ha1, .inl (cI, 41, .inl s_1)), (ha2, .inl (cZ, 41, .inl s_2))]) (krunV (As := [.int k]) (rest := [.int i]) ⟨hx, hb, hml, hown, hts⟩ (c_X1_lengthOf l D cB cI cZ h ha0 ha1 ha2 (s_0, s_1, s_2, s_3, s_4, s_5, s_6, s_7, s_8) k) (cwV 1 hts gX1_byteOf_X1_lengthOf rfl rfl rfl (by decide +kernel) ⟨Nat.le_of_ble_eq_true rfl, Nat.le_of_ble_eq_true rfl⟩) hE hK hP hD hS hA [0, 1, 2, 3] rfl (by decide) (ci := 0) (q0 := 0) rfl rfl rfl hl.1 rfl (Nat.le_of_ble_eq_true rfl) dX1_byteOf_14 ⟨Nat.zero_le _, Nat.zero_le _⟩) hP hD hS hA [0, 1, 2, 3] [] [0, 1, 2, 3] rfl rfl (by decide) (by decide) rfl (by decide) (fun H locs hP hD hS => ?_)
      refine lv_icmp_lt (tgt := 22) hx hb dX1_byteOf_17 (by decide) (fun c_3 => ?_) (fun c_3 => ?_)
      · refine lv_aload_n hx hb dX1_byteOf_22 rfl (lv_at hl 0 rfl) ?_
        refine lv_iload_n hx hb dX1_byteOf_23 rfl (lv_at hl 1 rfl) ?_
        refine kcalli (wr := []) (ws' := [(h, .inr (0, [.ref ha0, .ref ha1, .ref ha2, .int s_3, .int s_4, .int s_5, .int s_6, .int s_7, .int s_8])), (ha0, .inl (cI, 3075, .inl s_0)), (ha1, .inl (cI, 41, .inl s_1)), (ha2, .inl (cZ, 41, .inl s_2))]) (krunV (As := [.int k]) (rest := []) ⟨hx, hb, hml, hown, hts⟩ (c_X1_slotOf l D cB cI cZ h ha0 ha1 ha2 (s_0, s_1, s_2, s_3, s_4, s_5, s_6, s_7, s_8) k) (cwV 1 hts gX1_byteOf_X1_slotOf rfl rfl rfl (by decide +kernel) ⟨Nat.le_of_ble_eq_true rfl, Nat.le_of_ble_eq_true rfl⟩) hE hK hP hD hS hA [0, 1, 2, 3] rfl (by decide) (ci := 0) (q0 := 0) rfl rfl rfl hl.1 rfl (Nat.le_of_ble_eq_true rfl) dX1_byteOf_24 ⟨Nat.zero_le _, Nat.zero_le _⟩) hP hD hS hA [0, 1, 2, 3] [] [0, 1, 2, 3] rfl rfl (by decide) (by decide) rfl (by decide) (fun H locs hP hD hS => ?_)
        refine lv_bipush (v := 75) hx hb dX1_byteOf_27 (by decide) ?_
        refine lv_imul hx hb dX1_byteOf_29 ?_
        refine lv_iload_n hx hb dX1_byteOf_30 rfl (lv_at hl 2 rfl) ?_
        refine lv_iconst (v := 2) hx hb dX1_byteOf_31 (by decide) ?_
        refine lv_ishr hx hb dX1_byteOf_32 ?_
        refine lv_iadd hx hb dX1_byteOf_33 ?_
        refine lv_topi (fun x_4 ex_4 => ?_)
        refine lv_istore_n (lv' := [(3, .int x_4), (0, .ref h), (1, .int k), (2, .int i)]) hx hb dX1_byteOf_34 rfl hl (by decide) rfl (fun ls hl => ?_)
        refine lv_aload_n hx hb dX1_byteOf_35 rfl (lv_at hl 1 rfl) ?_
        refine va_get (D := D) (ci := 0) (v := .ref ha0) (C := RX1) (T := TX1) (N := 9) hx hb hts hiX1 hown hK hP 0 rfl rfl 0 (by decide) k11 (fun _ h9 => h9) rfl dX1_byteOf_36 ?_
        refine lv_iload_n hx hb dX1_byteOf_39 rfl (lv_at hl 0 rfl) ?_
        have h_5 : vp_in x_4 3075 := in_word (by have q := fm_41 ((s_3 - s_4) + k); simp only [f_X1_slotOf]; exact q) (i_nlt c_1) (i_nle c_2) ex_4
        refine va_iald hx hb hK hP 1 1 rfl rfl h_5 dX1_byteOf_40 ?_
        refine lv_iload_n hx hb dX1_byteOf_41 rfl (lv_at hl 3 rfl) ?_
        refine lv_iconst (v := 3) hx hb dX1_byteOf_42 (by decide) ?_
        refine lv_iand hx hb dX1_byteOf_43 ?_
        refine lv_bipush (v := 8) hx hb dX1_byteOf_44 (by decide) ?_
        refine lv_imul hx hb dX1_byteOf_46 ?_
        refine lv_ishr hx hb dX1_byteOf_47 ?_
        refine lv_sipush (v := 255) hx hb dX1_byteOf_48 (by decide) ?_
        refine lv_iand hx hb dX1_byteOf_51 ?_
        have hf : f_X1_byteOf k i (s_0, s_1, s_2, s_3, s_4, s_5, s_6, s_7, s_8) = (((s_0 (x_4).toNatClampNeg) >>> ((((i &&& 3) * 8) : Int32) &&& 31)) &&& 255) := by simp only [f_X1_byteOf, ↓letv_eq ex_4, ↓if_neg c_1, ↓if_neg c_2, ↓if_pos c_3]
        exact kreti hx hb hr hlocks hS hP hK hD dX1_byteOf_52 hf.symm rfl
      · refine lv_iconst (v := (-1)) hx hb dX1_byteOf_20 (by decide) ?_
        have hf : f_X1_byteOf k i (s_0, s_1, s_2, s_3, s_4, s_5, s_6, s_7, s_8) = (-1) := by simp only [f_X1_byteOf, ↓if_neg c_1, ↓if_neg c_2, ↓if_neg c_3]
        exact kreti hx hb hr hlocks hS hP hK hD dX1_byteOf_21 hf.symm rfl

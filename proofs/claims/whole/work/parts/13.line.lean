abbrev rmX2_hasRoomFor : Room := { frames := 0, cells := 0, slots := 0, locals := 0 }
def f_X2_hasRoomFor (more : Int32) (S : LnS) : Int32 := match S with | (s_0, s_1) => (if (8000 - s_1) < more then 0 else 1)
set_option maxHeartbeats 4000000 in
set_option maxRecDepth 100000 in
theorem c_X2_hasRoomFor (l : Launch) (D : va_G) (cB cI cZ : ClassId) (h ha0 : Nat) (S : LnS) (more : Int32) : CtI l yX2_hasRoomFor wsX2_hasRoomFor rmX2_hasRoomFor D (tyv cB cI cZ) [.ref h, .int more] (f_X2_hasRoomFor more S) (wLn cB cI cZ h ha0 S) (wLn cB cI cZ h ha0 S) := by
  obtain ⟨s_0, s_1⟩ := S
  refine CtI.of (cc := cX2_hasRoomFor) (maxL := 2) (ret := (some .boolean)) (by decide +kernel) rfl (Nat.le_of_ble_eq_true rfl) ?_
  intro p e s m below meth c A ls hx hb hr hml hown hts hlocks hE hP hK hD hA hS hl
  have hown : s.vm.findClass RX2 = some m.cls := hown
  have hl : lv_has ls 2 [(0, .ref h), (1, .int more)] := hl
  have hP : va_P D vwCl [(h, .inr (1, [.ref ha0, .int s_1])), (ha0, .inl (cB, 8000, .inl s_0))] s.heap := hP
  have hD : va_D A [(h, .inr (1, [.ref ha0, .int s_1])), (ha0, .inl (cB, 8000, .inl s_0))] := hD
  have hiX2 : ∀ w ∈ wsX20, w ∈ wsX2_hasRoomFor := by decide +kernel
  have k15 := hts (.fieldLink RX2 15 "CodedGroups$Line" "held" "I") (by decide +kernel)
  refine lv_iload_n hx hb dX2_hasRoomFor_0 rfl (lv_at hl 1 rfl) ?_
  refine lv_sipush (v := 8000) hx hb dX2_hasRoomFor_1 (by decide) ?_
  refine lv_aload_n hx hb dX2_hasRoomFor_4 rfl (lv_at hl 0 rfl) ?_
  refine va_get (D := D) (ci := 1) (v := .int s_1) (C := RX2) (T := TX2) (N := 2) hx hb hts hiX2 hown hK hP 0 rfl rfl 1 (by decide) k15 (fun _ h9 => h9) rfl dX2_hasRoomFor_5 ?_
  refine lv_isub hx hb dX2_hasRoomFor_8 ?_
  refine lv_icmp_gt (tgt := 16) hx hb dX2_hasRoomFor_9 (by decide) (fun c_1 => ?_) (fun c_1 => ?_)
  · refine lv_iconst (v := 0) hx hb dX2_hasRoomFor_16 (by decide) ?_
    have hf : f_X2_hasRoomFor more (s_0, s_1) = 0 := by simp only [f_X2_hasRoomFor, ↓if_pos c_1]
    exact kretz hx hb hr hlocks hS hP hK hD dX2_hasRoomFor_17 (by rfl) hf.symm rfl
  · refine lv_iconst (v := 1) hx hb dX2_hasRoomFor_12 (by decide) ?_
    refine lv_goto (tgt := 17) hx hb dX2_hasRoomFor_13 (by decide) ?_
    have hf : f_X2_hasRoomFor more (s_0, s_1) = 1 := by simp only [f_X2_hasRoomFor, ↓if_neg c_1]
    exact kretz hx hb hr hlocks hS hP hK hD dX2_hasRoomFor_17 (by rfl) hf.symm rfl

abbrev rmX2_append : Room := { frames := 0, cells := 0, slots := 0, locals := 0 }
def f_X2_append (b : Int32) (S : LnS) : Int32 × LnS := match S with | (s_0, s_1) => (if s_1 < 0 then (0, (s_0, s_1)) else (if s_1 < 8000 then (1, ((upd s_0 (s_1).toNatClampNeg ((vp_nar .byte (((b).toInt8.toInt32))))), (s_1 + 1))) else (0, (s_0, s_1))))
set_option maxHeartbeats 4000000 in
set_option maxRecDepth 100000 in
theorem c_X2_append (l : Launch) (D : va_G) (cB cI cZ : ClassId) (h ha0 : Nat) (S : LnS) (b : Int32) : CtI l yX2_append wsX2_append rmX2_append D (tyv cB cI cZ) [.ref h, .int b] (f_X2_append b S).1 (wLn cB cI cZ h ha0 S) (wLn cB cI cZ h ha0 ((f_X2_append b S).2)) := by
  obtain ⟨s_0, s_1⟩ := S
  refine CtI.of (cc := cX2_append) (maxL := 2) (ret := (some .boolean)) (by decide +kernel) rfl (Nat.le_of_ble_eq_true rfl) ?_
  intro p e s m below meth c A ls hx hb hr hml hown hts hlocks hE hP hK hD hA hS hl
  have hown : s.vm.findClass RX2 = some m.cls := hown
  have hl : lv_has ls 2 [(0, .ref h), (1, .int b)] := hl
  have hP : va_P D vwCl [(h, .inr (1, [.ref ha0, .int s_1])), (ha0, .inl (cB, 8000, .inl s_0))] s.heap := hP
  have hD : va_D A [(h, .inr (1, [.ref ha0, .int s_1])), (ha0, .inl (cB, 8000, .inl s_0))] := hD
  have hiX2 : ∀ w ∈ wsX20, w ∈ wsX2_append := by decide +kernel
  have k11 := hts (.fieldLink RX2 11 "CodedGroups$Line" "bits" "[B") (by decide +kernel)
  have k15 := hts (.fieldLink RX2 15 "CodedGroups$Line" "held" "I") (by decide +kernel)
  refine lv_aload_n hx hb dX2_append_0 rfl (lv_at hl 0 rfl) ?_
  refine va_get (D := D) (ci := 1) (v := .int s_1) (C := RX2) (T := TX2) (N := 2) hx hb hts hiX2 hown hK hP 0 rfl rfl 1 (by decide) k15 (fun _ h9 => h9) rfl dX2_append_1 ?_
  refine lv_if_lt (tgt := 17) hx hb dX2_append_4 (by decide) (fun c_1 => ?_) (fun c_1 => ?_)
  · refine lv_iconst (v := 0) hx hb dX2_append_17 (by decide) ?_
    have hf : f_X2_append b (s_0, s_1) = (0, (s_0, s_1)) := by simp only [f_X2_append, ↓if_pos c_1]
    exact kretz hx hb hr hlocks hS hP hK hD dX2_append_18 (by rfl) (congrArg (fun u : Int32 × LnS => u.1) hf).symm (congrArg (fun u : Int32 × LnS => wLn cB cI cZ h ha0 u.2) hf).symm
  · refine lv_aload_n hx hb dX2_append_7 rfl (lv_at hl 0 rfl) ?_
    refine va_get (D := D) (ci := 1) (v := .int s_1) (C := RX2) (T := TX2) (N := 2) hx hb hts hiX2 hown hK hP 0 rfl rfl 1 (by decide) k15 (fun _ h9 => h9) rfl dX2_append_8 ?_
    refine lv_sipush (v := 8000) hx hb dX2_append_11 (by decide) ?_
    refine lv_icmp_lt (tgt := 19) hx hb dX2_append_14 (by decide) (fun c_2 => ?_) (fun c_2 => ?_)
    · refine lv_aload_n hx hb dX2_append_19 rfl (lv_at hl 0 rfl) ?_
      refine va_get (D := D) (ci := 1) (v := .ref ha0) (C := RX2) (T := TX2) (N := 2) hx hb hts hiX2 hown hK hP 0 rfl rfl 0 (by decide) k11 (fun _ h9 => h9) rfl dX2_append_20 ?_
      refine lv_aload_n hx hb dX2_append_23 rfl (lv_at hl 0 rfl) ?_
      refine va_get (D := D) (ci := 1) (v := .int s_1) (C := RX2) (T := TX2) (N := 2) hx hb hts hiX2 hown hK hP 0 rfl rfl 1 (by decide) k15 (fun _ h9 => h9) rfl dX2_append_24 ?_
      refine lv_iload_n hx hb dX2_append_27 rfl (lv_at hl 1 rfl) ?_
      refine lv_i2b (v := ((b).toInt8.toInt32)) hx hb dX2_append_28 rfl ?_
      have h_3 : vp_in s_1 8000 := vp_in_iff.mpr (show 0 ≤ (s_1 : Int32).toInt ∧ (s_1 : Int32).toInt < ((8000 : Nat) : Int) from by have e_0 := i_nlt c_1; have e_1 := i_lt c_2; have z0 : (0 : Int32).toInt = 0 := rfl; have z8000 : (8000 : Int32).toInt = 8000 := rfl; omega)
      refine va_bast hx hb hK hP hD hS 1 0 rfl rfl h_3 dX2_append_29 (fun H locs hP hD hS => ?_)
      have hP : va_P D vwCl [(h, .inr (1, [.ref ha0, .int s_1])), (ha0, .inl (cB, 8000, .inl (upd s_0 (s_1).toNatClampNeg ((vp_nar .byte (((b).toInt8.toInt32)))))))] H := hP
      have hD : va_D A [(h, .inr (1, [.ref ha0, .int s_1])), (ha0, .inl (cB, 8000, .inl (upd s_0 (s_1).toNatClampNeg ((vp_nar .byte (((b).toInt8.toInt32)))))))] := hD
      refine lv_aload_n hx hb dX2_append_30 rfl (lv_at hl 0 rfl) ?_
      refine lv_dup hx hb dX2_append_31 rfl ?_
      refine va_get (D := D) (ci := 1) (v := .int s_1) (C := RX2) (T := TX2) (N := 2) hx hb hts hiX2 hown hK hP 0 rfl rfl 1 (by decide) k15 (fun _ h9 => h9) rfl dX2_append_32 ?_
      refine lv_iconst (v := 1) hx hb dX2_append_35 (by decide) ?_
      refine lv_iadd hx hb dX2_append_36 ?_
      refine va_put (D := D) (ci := 1) (v := .int (s_1 + 1)) (ty := .int) (C := RX2) (T := TX2) (N := 2) hx hb hts hiX2 tyX2 tyX2_ok nmX2 hown hK hP hD hS 0 rfl rfl 1 (by decide) k15 (fun _ h9 => h9) rfl (by decide +kernel) rfl rfl (Nat.le_of_ble_eq_true rfl) dX2_append_37 (fun H locs hP hD hS => ?_)
      have hP : va_P D vwCl [(h, .inr (1, [.ref ha0, .int (s_1 + 1)])), (ha0, .inl (cB, 8000, .inl (upd s_0 (s_1).toNatClampNeg ((vp_nar .byte (((b).toInt8.toInt32)))))))] H := hP
      have hD : va_D A [(h, .inr (1, [.ref ha0, .int (s_1 + 1)])), (ha0, .inl (cB, 8000, .inl (upd s_0 (s_1).toNatClampNeg ((vp_nar .byte (((b).toInt8.toInt32)))))))] := hD
      refine lv_iconst (v := 1) hx hb dX2_append_40 (by decide) ?_
      have hf : f_X2_append b (s_0, s_1) = (1, ((upd s_0 (s_1).toNatClampNeg ((vp_nar .byte (((b).toInt8.toInt32))))), (s_1 + 1))) := by simp only [f_X2_append, ↓if_neg c_1, ↓if_pos c_2]
      exact kretz hx hb hr hlocks hS hP hK hD dX2_append_41 (by rfl) (congrArg (fun u : Int32 × LnS => u.1) hf).symm (congrArg (fun u : Int32 × LnS => wLn cB cI cZ h ha0 u.2) hf).symm
    · refine lv_iconst (v := 0) hx hb dX2_append_17 (by decide) ?_
      have hf : f_X2_append b (s_0, s_1) = (0, (s_0, s_1)) := by simp only [f_X2_append, ↓if_neg c_1, ↓if_neg c_2]
      exact kretz hx hb hr hlocks hS hP hK hD dX2_append_18 (by rfl) (congrArg (fun u : Int32 × LnS => u.1) hf).symm (congrArg (fun u : Int32 × LnS => wLn cB cI cZ h ha0 u.2) hf).symm

abbrev rmX2_has : Room := { frames := 0, cells := 0, slots := 0, locals := 0 }
def f_X2_has (i : Int32) (S : LnS) : Int32 := match S with | (s_0, s_1) => (if i < 0 then 0 else (if s_1 ≤ i then 0 else (if (8000 : Int32) < s_1 then 0 else 1)))
set_option maxHeartbeats 4000000 in
set_option maxRecDepth 100000 in
theorem c_X2_has (l : Launch) (D : va_G) (cB cI cZ : ClassId) (h ha0 : Nat) (S : LnS) (i : Int32) : CtI l yX2_has wsX2_has rmX2_has D (tyv cB cI cZ) [.ref h, .int i] (f_X2_has i S) (wLn cB cI cZ h ha0 S) (wLn cB cI cZ h ha0 S) := by
  obtain ⟨s_0, s_1⟩ := S
  refine CtI.of (cc := cX2_has) (maxL := 2) (ret := (some .boolean)) (by decide +kernel) rfl (Nat.le_of_ble_eq_true rfl) ?_
  intro p e s m below meth c A ls hx hb hr hml hown hts hlocks hE hP hK hD hA hS hl
  have hown : s.vm.findClass RX2 = some m.cls := hown
  have hl : lv_has ls 2 [(0, .ref h), (1, .int i)] := hl
  have hP : va_P D vwCl [(h, .inr (1, [.ref ha0, .int s_1])), (ha0, .inl (cB, 8000, .inl s_0))] s.heap := hP
  have hD : va_D A [(h, .inr (1, [.ref ha0, .int s_1])), (ha0, .inl (cB, 8000, .inl s_0))] := hD
  have hiX2 : ∀ w ∈ wsX20, w ∈ wsX2_has := by decide +kernel
  have k15 := hts (.fieldLink RX2 15 "CodedGroups$Line" "held" "I") (by decide +kernel)
  refine lv_iload_n hx hb dX2_has_0 rfl (lv_at hl 1 rfl) ?_
  refine lv_if_lt (tgt := 26) hx hb dX2_has_1 (by decide) (fun c_1 => ?_) (fun c_1 => ?_)
  · refine lv_iconst (v := 0) hx hb dX2_has_26 (by decide) ?_
    have hf : f_X2_has i (s_0, s_1) = 0 := by simp only [f_X2_has, ↓if_pos c_1]
    exact kretz hx hb hr hlocks hS hP hK hD dX2_has_27 (by rfl) hf.symm rfl
  · refine lv_iload_n hx hb dX2_has_4 rfl (lv_at hl 1 rfl) ?_
    refine lv_aload_n hx hb dX2_has_5 rfl (lv_at hl 0 rfl) ?_
    refine va_get (D := D) (ci := 1) (v := .int s_1) (C := RX2) (T := TX2) (N := 2) hx hb hts hiX2 hown hK hP 0 rfl rfl 1 (by decide) k15 (fun _ h9 => h9) rfl dX2_has_6 ?_
    refine lv_icmp_ge (tgt := 26) hx hb dX2_has_9 (by decide) (fun c_2 => ?_) (fun c_2 => ?_)
    · refine lv_iconst (v := 0) hx hb dX2_has_26 (by decide) ?_
      have hf : f_X2_has i (s_0, s_1) = 0 := by simp only [f_X2_has, ↓if_neg c_1, ↓if_pos c_2]
      exact kretz hx hb hr hlocks hS hP hK hD dX2_has_27 (by rfl) hf.symm rfl
    · refine lv_aload_n hx hb dX2_has_12 rfl (lv_at hl 0 rfl) ?_
      refine va_get (D := D) (ci := 1) (v := .int s_1) (C := RX2) (T := TX2) (N := 2) hx hb hts hiX2 hown hK hP 0 rfl rfl 1 (by decide) k15 (fun _ h9 => h9) rfl dX2_has_13 ?_
      refine lv_sipush (v := 8000) hx hb dX2_has_16 (by decide) ?_
      refine lv_icmp_gt (tgt := 26) hx hb dX2_has_19 (by decide) (fun c_3 => ?_) (fun c_3 => ?_)
      · refine lv_iconst (v := 0) hx hb dX2_has_26 (by decide) ?_
        have hf : f_X2_has i (s_0, s_1) = 0 := by simp only [f_X2_has, ↓if_neg c_1, ↓if_neg c_2, ↓if_pos c_3]
        exact kretz hx hb hr hlocks hS hP hK hD dX2_has_27 (by rfl) hf.symm rfl
      · refine lv_iconst (v := 1) hx hb dX2_has_22 (by decide) ?_
        refine lv_goto (tgt := 27) hx hb dX2_has_23 (by decide) ?_
        have hf : f_X2_has i (s_0, s_1) = 1 := by simp only [f_X2_has, ↓if_neg c_1, ↓if_neg c_2, ↓if_neg c_3]
        exact kretz hx hb hr hlocks hS hP hK hD dX2_has_27 (by rfl) hf.symm rfl

theorem h_X2_has {i : Int32} {f : Nat → Int32} {n : Int32} (h : ¬ f_X2_has i (f, n) = 0) : 0 ≤ i.toInt ∧ i.toInt < n.toInt ∧ n.toInt ≤ 8000 := by
  simp only [f_X2_has] at h
  by_cases h1 : i < 0
  · rw [if_pos h1] at h; exact absurd rfl h
  · rw [if_neg h1] at h
    by_cases h2 : n ≤ i
    · rw [if_pos h2] at h; exact absurd rfl h
    · rw [if_neg h2] at h
      by_cases h3 : 8000 < n
      · rw [if_pos h3] at h; exact absurd rfl h
      · have z : (8000 : Int32).toInt = 8000 := rfl
        have e1 := i_nlt0 h1
        have e2 := i_nle h2
        have e3 := i_nlt h3
        omega
/-- the line's bits are 0 or 1, and it holds at most 8000 -/
def lnOK (S : LnS) : Prop := (∀ j, S.1 j = 0 ∨ S.1 j = 1) ∧ 0 ≤ S.2.toInt ∧ S.2.toInt ≤ 8000

abbrev rmX2_get : Room := { frames := 1, cells := 0, slots := 0, locals := 21 }
def f_X2_get (i : Int32) (S : LnS) : Int32 := match S with | (s_0, s_1) => (if (f_X2_has i (s_0, s_1)) = 0 then (-1) else (s_0 (i).toNatClampNeg))
set_option maxHeartbeats 4000000 in
set_option maxRecDepth 100000 in
theorem c_X2_get (l : Launch) (D : va_G) (cB cI cZ : ClassId) (h ha0 : Nat) (S : LnS) (i : Int32) : CtI l yX2_get wsX2_get rmX2_get D (tyv cB cI cZ) [.ref h, .int i] (f_X2_get i S) (wLn cB cI cZ h ha0 S) (wLn cB cI cZ h ha0 S) := by
  obtain ⟨s_0, s_1⟩ := S
  refine CtI.of (cc := cX2_get) (maxL := 2) (ret := (some .int)) (by decide +kernel) rfl (Nat.le_of_ble_eq_true rfl) ?_
  intro p e s m below meth c A ls hx hb hr hml hown hts hlocks hE hP hK hD hA hS hl
  have hown : s.vm.findClass RX2 = some m.cls := hown
  have hl : lv_has ls 2 [(0, .ref h), (1, .int i)] := hl
  have hP : va_P D vwCl [(h, .inr (1, [.ref ha0, .int s_1])), (ha0, .inl (cB, 8000, .inl s_0))] s.heap := hP
  have hD : va_D A [(h, .inr (1, [.ref ha0, .int s_1])), (ha0, .inl (cB, 8000, .inl s_0))] := hD
  have hiX2 : ∀ w ∈ wsX20, w ∈ wsX2_get := by decide +kernel
  have k11 := hts (.fieldLink RX2 11 "CodedGroups$Line" "bits" "[B") (by decide +kernel)
  refine lv_aload_n hx hb dX2_get_0 rfl (lv_at hl 0 rfl) ?_
  refine lv_iload_n hx hb dX2_get_1 rfl (lv_at hl 1 rfl) ?_
  refine kcalli (wr := []) (ws' := [(h, .inr (1, [.ref ha0, .int s_1])), (ha0, .inl (cB, 8000, .inl s_0))]) (krunV (As := [.int i]) (rest := []) ⟨hx, hb, hml, hown, hts⟩ (c_X2_has l D cB cI cZ h ha0 (s_0, s_1) i) (cwV 1 hts gX2_get_X2_has rfl rfl rfl (by decide +kernel) ⟨Nat.le_of_ble_eq_true rfl, Nat.le_of_ble_eq_true rfl⟩) hE hK hP hD hS hA [0, 1] rfl (by decide) (ci := 1) (q0 := 0) rfl rfl rfl hl.1 rfl (Nat.le_of_ble_eq_true rfl) dX2_get_2 ⟨Nat.zero_le _, Nat.zero_le _⟩) hP hD hS hA [0, 1] [] [0, 1] rfl rfl (by decide) (by decide) rfl (by decide) (fun H locs hP hD hS => ?_)
  refine lv_if_eq (tgt := 17) hx hb dX2_get_5 (by decide) (fun c_1 => ?_) (fun c_1 => ?_)
  · refine lv_iconst (v := (-1)) hx hb dX2_get_17 (by decide) ?_
    have hf : f_X2_get i (s_0, s_1) = (-1) := by simp only [f_X2_get, ↓if_pos c_1]
    exact kreti hx hb hr hlocks hS hP hK hD dX2_get_18 hf.symm rfl
  · refine lv_aload_n hx hb dX2_get_8 rfl (lv_at hl 0 rfl) ?_
    refine va_get (D := D) (ci := 1) (v := .ref ha0) (C := RX2) (T := TX2) (N := 2) hx hb hts hiX2 hown hK hP 0 rfl rfl 0 (by decide) k11 (fun _ h9 => h9) rfl dX2_get_9 ?_
    refine lv_iload_n hx hb dX2_get_12 rfl (lv_at hl 1 rfl) ?_
    have h_2 : vp_in i 8000 := vp_in_iff.mpr (show 0 ≤ (i : Int32).toInt ∧ (i : Int32).toInt < ((8000 : Nat) : Int) from by have q := h_X2_has c_1; omega)
    refine va_bald hx hb hK hP 1 0 rfl rfl h_2 dX2_get_13 ?_
    refine lv_goto (tgt := 18) hx hb dX2_get_14 (by decide) ?_
    have hf : f_X2_get i (s_0, s_1) = (s_0 (i).toNatClampNeg) := by simp only [f_X2_get, ↓if_neg c_1]
    exact kreti hx hb hr hlocks hS hP hK hD dX2_get_18 hf.symm rfl

abbrev rmX2_flip : Room := { frames := 1, cells := 0, slots := 0, locals := 21 }
def f_X2_flip (i : Int32) (S : LnS) : Int32 × LnS := match S with | (s_0, s_1) => (if (f_X2_has i (s_0, s_1)) = 0 then (0, (s_0, s_1)) else (1, ((upd s_0 (i).toNatClampNeg ((vp_nar .byte ((((1 - (s_0 (i).toNatClampNeg))).toInt8.toInt32))))), s_1)))
set_option maxHeartbeats 4000000 in
set_option maxRecDepth 100000 in
theorem c_X2_flip (l : Launch) (D : va_G) (cB cI cZ : ClassId) (h ha0 : Nat) (S : LnS) (i : Int32) : CtI l yX2_flip wsX2_flip rmX2_flip D (tyv cB cI cZ) [.ref h, .int i] (f_X2_flip i S).1 (wLn cB cI cZ h ha0 S) (wLn cB cI cZ h ha0 ((f_X2_flip i S).2)) := by
  obtain ⟨s_0, s_1⟩ := S
  refine CtI.of (cc := cX2_flip) (maxL := 2) (ret := (some .boolean)) (by decide +kernel) rfl (Nat.le_of_ble_eq_true rfl) ?_
  intro p e s m below meth c A ls hx hb hr hml hown hts hlocks hE hP hK hD hA hS hl
  have hown : s.vm.findClass RX2 = some m.cls := hown
  have hl : lv_has ls 2 [(0, .ref h), (1, .int i)] := hl
  have hP : va_P D vwCl [(h, .inr (1, [.ref ha0, .int s_1])), (ha0, .inl (cB, 8000, .inl s_0))] s.heap := hP
  have hD : va_D A [(h, .inr (1, [.ref ha0, .int s_1])), (ha0, .inl (cB, 8000, .inl s_0))] := hD
  have hiX2 : ∀ w ∈ wsX20, w ∈ wsX2_flip := by decide +kernel
  have k11 := hts (.fieldLink RX2 11 "CodedGroups$Line" "bits" "[B") (by decide +kernel)
  refine lv_aload_n hx hb dX2_flip_0 rfl (lv_at hl 0 rfl) ?_
  refine lv_iload_n hx hb dX2_flip_1 rfl (lv_at hl 1 rfl) ?_
  refine kcalli (wr := []) (ws' := [(h, .inr (1, [.ref ha0, .int s_1])), (ha0, .inl (cB, 8000, .inl s_0))]) (krunV (As := [.int i]) (rest := []) ⟨hx, hb, hml, hown, hts⟩ (c_X2_has l D cB cI cZ h ha0 (s_0, s_1) i) (cwV 1 hts gX2_flip_X2_has rfl rfl rfl (by decide +kernel) ⟨Nat.le_of_ble_eq_true rfl, Nat.le_of_ble_eq_true rfl⟩) hE hK hP hD hS hA [0, 1] rfl (by decide) (ci := 1) (q0 := 0) rfl rfl rfl hl.1 rfl (Nat.le_of_ble_eq_true rfl) dX2_flip_2 ⟨Nat.zero_le _, Nat.zero_le _⟩) hP hD hS hA [0, 1] [] [0, 1] rfl rfl (by decide) (by decide) rfl (by decide) (fun H locs hP hD hS => ?_)
  refine lv_if_ne (tgt := 10) hx hb dX2_flip_5 (by decide) (fun c_1 => ?_) (fun c_1 => ?_)
  · refine lv_aload_n hx hb dX2_flip_10 rfl (lv_at hl 0 rfl) ?_
    refine va_get (D := D) (ci := 1) (v := .ref ha0) (C := RX2) (T := TX2) (N := 2) hx hb hts hiX2 hown hK hP 0 rfl rfl 0 (by decide) k11 (fun _ h9 => h9) rfl dX2_flip_11 ?_
    refine lv_iload_n hx hb dX2_flip_14 rfl (lv_at hl 1 rfl) ?_
    refine lv_iconst (v := 1) hx hb dX2_flip_15 (by decide) ?_
    refine lv_aload_n hx hb dX2_flip_16 rfl (lv_at hl 0 rfl) ?_
    refine va_get (D := D) (ci := 1) (v := .ref ha0) (C := RX2) (T := TX2) (N := 2) hx hb hts hiX2 hown hK hP 0 rfl rfl 0 (by decide) k11 (fun _ h9 => h9) rfl dX2_flip_17 ?_
    refine lv_iload_n hx hb dX2_flip_20 rfl (lv_at hl 1 rfl) ?_
    have h_2 : vp_in i 8000 := vp_in_iff.mpr (show 0 ≤ (i : Int32).toInt ∧ (i : Int32).toInt < ((8000 : Nat) : Int) from by have q := h_X2_has c_1; omega)
    refine va_bald hx hb hK hP 1 0 rfl rfl h_2 dX2_flip_21 ?_
    refine lv_isub hx hb dX2_flip_22 ?_
    refine lv_i2b (v := (((1 - (s_0 (i).toNatClampNeg))).toInt8.toInt32)) hx hb dX2_flip_23 rfl ?_
    have h_3 : vp_in i 8000 := vp_in_iff.mpr (show 0 ≤ (i : Int32).toInt ∧ (i : Int32).toInt < ((8000 : Nat) : Int) from by have q := h_X2_has c_1; omega)
    refine va_bast hx hb hK hP hD hS 1 0 rfl rfl h_3 dX2_flip_24 (fun H locs hP hD hS => ?_)
    have hP : va_P D vwCl [(h, .inr (1, [.ref ha0, .int s_1])), (ha0, .inl (cB, 8000, .inl (upd s_0 (i).toNatClampNeg ((vp_nar .byte ((((1 - (s_0 (i).toNatClampNeg))).toInt8.toInt32)))))))] H := hP
    have hD : va_D A [(h, .inr (1, [.ref ha0, .int s_1])), (ha0, .inl (cB, 8000, .inl (upd s_0 (i).toNatClampNeg ((vp_nar .byte ((((1 - (s_0 (i).toNatClampNeg))).toInt8.toInt32)))))))] := hD
    refine lv_iconst (v := 1) hx hb dX2_flip_25 (by decide) ?_
    have hf : f_X2_flip i (s_0, s_1) = (1, ((upd s_0 (i).toNatClampNeg ((vp_nar .byte ((((1 - (s_0 (i).toNatClampNeg))).toInt8.toInt32))))), s_1)) := by simp only [f_X2_flip, ↓if_neg c_1]
    exact kretz hx hb hr hlocks hS hP hK hD dX2_flip_26 (by rfl) (congrArg (fun u : Int32 × LnS => u.1) hf).symm (congrArg (fun u : Int32 × LnS => wLn cB cI cZ h ha0 u.2) hf).symm
  · refine lv_iconst (v := 0) hx hb dX2_flip_8 (by decide) ?_
    have hf : f_X2_flip i (s_0, s_1) = (0, (s_0, s_1)) := by simp only [f_X2_flip, ↓if_pos c_1]
    exact kretz hx hb hr hlocks hS hP hK hD dX2_flip_9 (by rfl) (congrArg (fun u : Int32 × LnS => u.1) hf).symm (congrArg (fun u : Int32 × LnS => wLn cB cI cZ h ha0 u.2) hf).symm

abbrev rmX2_leaveOut : Room := { frames := 1, cells := 0, slots := 0, locals := 64 }
def f_X2_leaveOut (i : Int32) (S : LnS) : Int32 × LnS := match S with | (s_0, s_1) => (if (f_X2_has i (s_0, s_1)) = 0 then (0, (s_0, s_1)) else (1, ((va_cpy s_0 s_0 ((i + 1) : Int32).toNatClampNeg (i : Int32).toNatClampNeg (((s_1 - i) - 1) : Int32).toNatClampNeg), (s_1 - 1))))
set_option maxHeartbeats 4000000 in
set_option maxRecDepth 100000 in
theorem c_X2_leaveOut (l : Launch) (D : va_G) (cB cI cZ : ClassId) (h ha0 : Nat) (S : LnS) (i : Int32) (hok : lnOK S) : CtI l yX2_leaveOut wsX2_leaveOut rmX2_leaveOut D (tyv cB cI cZ) [.ref h, .int i] (f_X2_leaveOut i S).1 (wLn cB cI cZ h ha0 S) (wLn cB cI cZ h ha0 ((f_X2_leaveOut i S).2)) := by
  obtain ⟨s_0, s_1⟩ := S
  refine CtI.of (cc := cX2_leaveOut) (maxL := 2) (ret := (some .boolean)) (by decide +kernel) rfl (Nat.le_of_ble_eq_true rfl) ?_
  intro p e s m below meth c A ls hx hb hr hml hown hts hlocks hE hP hK hD hA hS hl
  have hown : s.vm.findClass RX2 = some m.cls := hown
  have hl : lv_has ls 2 [(0, .ref h), (1, .int i)] := hl
  have hP : va_P D vwCl [(h, .inr (1, [.ref ha0, .int s_1])), (ha0, .inl (cB, 8000, .inl s_0))] s.heap := hP
  have hD : va_D A [(h, .inr (1, [.ref ha0, .int s_1])), (ha0, .inl (cB, 8000, .inl s_0))] := hD
  have hiX2 : ∀ w ∈ wsX20, w ∈ wsX2_leaveOut := by decide +kernel
  have k11 := hts (.fieldLink RX2 11 "CodedGroups$Line" "bits" "[B") (by decide +kernel)
  have k15 := hts (.fieldLink RX2 15 "CodedGroups$Line" "held" "I") (by decide +kernel)
  have k23 := hts (.methodLink RX2 23 arraycopyName) (by decide +kernel)
  have kai := hts (.initialized "java/lang/System") (by decide +kernel)
  have kan := hts (.native arraycopyName) (by decide +kernel)
  have kas := hts (.static arraycopyName) (by decide +kernel)
  have hbits : ∀ j, s_0 j = 0 ∨ s_0 j = 1 := hok.1
  refine lv_aload_n hx hb dX2_leaveOut_0 rfl (lv_at hl 0 rfl) ?_
  refine lv_iload_n hx hb dX2_leaveOut_1 rfl (lv_at hl 1 rfl) ?_
  refine kcalli (wr := []) (ws' := [(h, .inr (1, [.ref ha0, .int s_1])), (ha0, .inl (cB, 8000, .inl s_0))]) (krunV (As := [.int i]) (rest := []) ⟨hx, hb, hml, hown, hts⟩ (c_X2_has l D cB cI cZ h ha0 (s_0, s_1) i) (cwV 1 hts gX2_leaveOut_X2_has rfl rfl rfl (by decide +kernel) ⟨Nat.le_of_ble_eq_true rfl, Nat.le_of_ble_eq_true rfl⟩) hE hK hP hD hS hA [0, 1] rfl (by decide) (ci := 1) (q0 := 0) rfl rfl rfl hl.1 rfl (Nat.le_of_ble_eq_true rfl) dX2_leaveOut_2 ⟨Nat.zero_le _, Nat.zero_le _⟩) hP hD hS hA [0, 1] [] [0, 1] rfl rfl (by decide) (by decide) rfl (by decide) (fun H locs hP hD hS => ?_)
  refine lv_if_ne (tgt := 10) hx hb dX2_leaveOut_5 (by decide) (fun c_1 => ?_) (fun c_1 => ?_)
  · refine lv_aload_n hx hb dX2_leaveOut_10 rfl (lv_at hl 0 rfl) ?_
    refine va_get (D := D) (ci := 1) (v := .ref ha0) (C := RX2) (T := TX2) (N := 2) hx hb hts hiX2 hown hK hP 0 rfl rfl 0 (by decide) k11 (fun _ h9 => h9) rfl dX2_leaveOut_11 ?_
    refine lv_iload_n hx hb dX2_leaveOut_14 rfl (lv_at hl 1 rfl) ?_
    refine lv_iconst (v := 1) hx hb dX2_leaveOut_15 (by decide) ?_
    refine lv_iadd hx hb dX2_leaveOut_16 ?_
    refine lv_aload_n hx hb dX2_leaveOut_17 rfl (lv_at hl 0 rfl) ?_
    refine va_get (D := D) (ci := 1) (v := .ref ha0) (C := RX2) (T := TX2) (N := 2) hx hb hts hiX2 hown hK hP 0 rfl rfl 0 (by decide) k11 (fun _ h9 => h9) rfl dX2_leaveOut_18 ?_
    refine lv_iload_n hx hb dX2_leaveOut_21 rfl (lv_at hl 1 rfl) ?_
    refine lv_aload_n hx hb dX2_leaveOut_22 rfl (lv_at hl 0 rfl) ?_
    refine va_get (D := D) (ci := 1) (v := .int s_1) (C := RX2) (T := TX2) (N := 2) hx hb hts hiX2 hown hK hP 0 rfl rfl 1 (by decide) k15 (fun _ h9 => h9) rfl dX2_leaveOut_23 ?_
    refine lv_iload_n hx hb dX2_leaveOut_26 rfl (lv_at hl 1 rfl) ?_
    refine lv_isub hx hb dX2_leaveOut_27 ?_
    refine lv_iconst (v := 1) hx hb dX2_leaveOut_28 (by decide) ?_
    refine lv_isub hx hb dX2_leaveOut_29 ?_
    refine va_copyi (ty := .byte) (sp := (i + 1)) (dp := i) (n := ((s_1 - i) - 1)) hx hb (hml.trans hl.1.symm) hown k23 kan kas kai hK hP hD hS 1 1 0 0 rfl rfl rfl rfl rfl (by have q := h_X2_has c_1; have q1 := i_inc i (by omega); exact i_nn (by omega)) (by have q := h_X2_has c_1; exact i_nn (by omega)) (by have q := h_X2_has c_1; have z : (1 : Int32).toInt = 1 := rfl; have q2 := i_sub s_1 i (by omega); have q3 := i_sub (s_1 - i) 1 (by omega); exact i_nn (by omega)) (by have q := h_X2_has c_1; have z : (1 : Int32).toInt = 1 := rfl; have q1 := i_inc i (by omega); have q2 := i_sub s_1 i (by omega); have q3 := i_sub (s_1 - i) 1 (by omega); simp only [i_cl]; omega) (by have q := h_X2_has c_1; have z : (1 : Int32).toInt = 1 := rfl; have q2 := i_sub s_1 i (by omega); have q3 := i_sub (s_1 - i) 1 (by omega); simp only [i_cl]; omega) (fun j _ => fit_bit (hbits _)) (Nat.le_of_ble_eq_true rfl) (Nat.le_of_ble_eq_true rfl) dX2_leaveOut_30 (fun H locs hP hD hS => ?_)
    have hP : va_P D vwCl [(h, .inr (1, [.ref ha0, .int s_1])), (ha0, .inl (cB, 8000, .inl (va_cpy s_0 s_0 ((i + 1) : Int32).toNatClampNeg (i : Int32).toNatClampNeg (((s_1 - i) - 1) : Int32).toNatClampNeg)))] H := hP
    have hD : va_D A [(h, .inr (1, [.ref ha0, .int s_1])), (ha0, .inl (cB, 8000, .inl (va_cpy s_0 s_0 ((i + 1) : Int32).toNatClampNeg (i : Int32).toNatClampNeg (((s_1 - i) - 1) : Int32).toNatClampNeg)))] := hD
    refine lv_aload_n hx hb dX2_leaveOut_33 rfl (lv_at hl 0 rfl) ?_
    refine lv_dup hx hb dX2_leaveOut_34 rfl ?_
    refine va_get (D := D) (ci := 1) (v := .int s_1) (C := RX2) (T := TX2) (N := 2) hx hb hts hiX2 hown hK hP 0 rfl rfl 1 (by decide) k15 (fun _ h9 => h9) rfl dX2_leaveOut_35 ?_
    refine lv_iconst (v := 1) hx hb dX2_leaveOut_38 (by decide) ?_
    refine lv_isub hx hb dX2_leaveOut_39 ?_
    refine va_put (D := D) (ci := 1) (v := .int (s_1 - 1)) (ty := .int) (C := RX2) (T := TX2) (N := 2) hx hb hts hiX2 tyX2 tyX2_ok nmX2 hown hK hP hD hS 0 rfl rfl 1 (by decide) k15 (fun _ h9 => h9) rfl (by decide +kernel) rfl rfl (Nat.le_of_ble_eq_true rfl) dX2_leaveOut_40 (fun H locs hP hD hS => ?_)
    have hP : va_P D vwCl [(h, .inr (1, [.ref ha0, .int (s_1 - 1)])), (ha0, .inl (cB, 8000, .inl (va_cpy s_0 s_0 ((i + 1) : Int32).toNatClampNeg (i : Int32).toNatClampNeg (((s_1 - i) - 1) : Int32).toNatClampNeg)))] H := hP
    have hD : va_D A [(h, .inr (1, [.ref ha0, .int (s_1 - 1)])), (ha0, .inl (cB, 8000, .inl (va_cpy s_0 s_0 ((i + 1) : Int32).toNatClampNeg (i : Int32).toNatClampNeg (((s_1 - i) - 1) : Int32).toNatClampNeg)))] := hD
    refine lv_iconst (v := 1) hx hb dX2_leaveOut_43 (by decide) ?_
    have hf : f_X2_leaveOut i (s_0, s_1) = (1, ((va_cpy s_0 s_0 ((i + 1) : Int32).toNatClampNeg (i : Int32).toNatClampNeg (((s_1 - i) - 1) : Int32).toNatClampNeg), (s_1 - 1))) := by simp only [f_X2_leaveOut, ↓if_neg c_1]
    exact kretz hx hb hr hlocks hS hP hK hD dX2_leaveOut_44 (by rfl) (congrArg (fun u : Int32 × LnS => u.1) hf).symm (congrArg (fun u : Int32 × LnS => wLn cB cI cZ h ha0 u.2) hf).symm
  · refine lv_iconst (v := 0) hx hb dX2_leaveOut_8 (by decide) ?_
    have hf : f_X2_leaveOut i (s_0, s_1) = (0, (s_0, s_1)) := by simp only [f_X2_leaveOut, ↓if_pos c_1]
    exact kretz hx hb hr hlocks hS hP hK hD dX2_leaveOut_9 (by rfl) (congrArg (fun u : Int32 × LnS => u.1) hf).symm (congrArg (fun u : Int32 × LnS => wLn cB cI cZ h ha0 u.2) hf).symm

abbrev rmX2_cutFront : Room := { frames := 1, cells := 0, slots := 0, locals := 64 }
def f_X2_cutFront (n : Int32) (S : LnS) : LnS := match S with | (s_0, s_1) => (if n ≤ 0 then (s_0, s_1) else (if n ≤ s_1 then ((va_cpy s_0 s_0 (n : Int32).toNatClampNeg (0 : Int32).toNatClampNeg ((s_1 - n) : Int32).toNatClampNeg), (s_1 - n)) else (s_0, s_1)))
set_option maxHeartbeats 4000000 in
set_option maxRecDepth 100000 in
theorem c_X2_cutFront (l : Launch) (D : va_G) (cB cI cZ : ClassId) (h ha0 : Nat) (S : LnS) (n : Int32) (hok : lnOK S) : CtV l yX2_cutFront wsX2_cutFront rmX2_cutFront D (tyv cB cI cZ) [.ref h, .int n] (wLn cB cI cZ h ha0 S) (wLn cB cI cZ h ha0 ((f_X2_cutFront n S))) := by
  obtain ⟨s_0, s_1⟩ := S
  refine CtV.of (cc := cX2_cutFront) (maxL := 2) (ret := none) (by decide +kernel) rfl (Nat.le_of_ble_eq_true rfl) ?_
  intro p e s m below meth c A ls hx hb hr hml hown hts hlocks hE hP hK hD hA hS hl
  have hown : s.vm.findClass RX2 = some m.cls := hown
  have hl : lv_has ls 2 [(0, .ref h), (1, .int n)] := hl
  have hP : va_P D vwCl [(h, .inr (1, [.ref ha0, .int s_1])), (ha0, .inl (cB, 8000, .inl s_0))] s.heap := hP
  have hD : va_D A [(h, .inr (1, [.ref ha0, .int s_1])), (ha0, .inl (cB, 8000, .inl s_0))] := hD
  have hiX2 : ∀ w ∈ wsX20, w ∈ wsX2_cutFront := by decide +kernel
  have k11 := hts (.fieldLink RX2 11 "CodedGroups$Line" "bits" "[B") (by decide +kernel)
  have k15 := hts (.fieldLink RX2 15 "CodedGroups$Line" "held" "I") (by decide +kernel)
  have k23 := hts (.methodLink RX2 23 arraycopyName) (by decide +kernel)
  have kai := hts (.initialized "java/lang/System") (by decide +kernel)
  have kan := hts (.native arraycopyName) (by decide +kernel)
  have kas := hts (.static arraycopyName) (by decide +kernel)
  have hbits : ∀ j, s_0 j = 0 ∨ s_0 j = 1 := hok.1
  have hw : 0 ≤ s_1.toInt ∧ s_1.toInt ≤ 8000 := hok.2
  refine lv_iload_n hx hb dX2_cutFront_0 rfl (lv_at hl 1 rfl) ?_
  refine lv_if_le (tgt := 12) hx hb dX2_cutFront_1 (by decide) (fun c_1 => ?_) (fun c_1 => ?_)
  · have hf : f_X2_cutFront n (s_0, s_1) = (s_0, s_1) := by simp only [f_X2_cutFront, ↓if_pos c_1]
    exact kretv hx hb hr hlocks hS hP hK hD dX2_cutFront_12 (congrArg (fun u : LnS => wLn cB cI cZ h ha0 u) hf).symm
  · refine lv_iload_n hx hb dX2_cutFront_4 rfl (lv_at hl 1 rfl) ?_
    refine lv_aload_n hx hb dX2_cutFront_5 rfl (lv_at hl 0 rfl) ?_
    refine va_get (D := D) (ci := 1) (v := .int s_1) (C := RX2) (T := TX2) (N := 2) hx hb hts hiX2 hown hK hP 0 rfl rfl 1 (by decide) k15 (fun _ h9 => h9) rfl dX2_cutFront_6 ?_
    refine lv_icmp_le (tgt := 13) hx hb dX2_cutFront_9 (by decide) (fun c_2 => ?_) (fun c_2 => ?_)
    · refine lv_aload_n hx hb dX2_cutFront_13 rfl (lv_at hl 0 rfl) ?_
      refine va_get (D := D) (ci := 1) (v := .ref ha0) (C := RX2) (T := TX2) (N := 2) hx hb hts hiX2 hown hK hP 0 rfl rfl 0 (by decide) k11 (fun _ h9 => h9) rfl dX2_cutFront_14 ?_
      refine lv_iload_n hx hb dX2_cutFront_17 rfl (lv_at hl 1 rfl) ?_
      refine lv_aload_n hx hb dX2_cutFront_18 rfl (lv_at hl 0 rfl) ?_
      refine va_get (D := D) (ci := 1) (v := .ref ha0) (C := RX2) (T := TX2) (N := 2) hx hb hts hiX2 hown hK hP 0 rfl rfl 0 (by decide) k11 (fun _ h9 => h9) rfl dX2_cutFront_19 ?_
      refine lv_iconst (v := 0) hx hb dX2_cutFront_22 (by decide) ?_
      refine lv_aload_n hx hb dX2_cutFront_23 rfl (lv_at hl 0 rfl) ?_
      refine va_get (D := D) (ci := 1) (v := .int s_1) (C := RX2) (T := TX2) (N := 2) hx hb hts hiX2 hown hK hP 0 rfl rfl 1 (by decide) k15 (fun _ h9 => h9) rfl dX2_cutFront_24 ?_
      refine lv_iload_n hx hb dX2_cutFront_27 rfl (lv_at hl 1 rfl) ?_
      refine lv_isub hx hb dX2_cutFront_28 ?_
      refine va_copyi (ty := .byte) (sp := n) (dp := 0) (n := (s_1 - n)) hx hb (hml.trans hl.1.symm) hown k23 kan kas kai hK hP hD hS 1 1 0 0 rfl rfl rfl rfl rfl (by have e1 := i_nle c_1; have z0 : (0 : Int32).toInt = 0 := rfl; have e2 := i_le c_2; have q2 := i_sub s_1 n (by omega); exact i_nn (by omega)) (by exact i_nn (by decide)) (by have e1 := i_nle c_1; have z0 : (0 : Int32).toInt = 0 := rfl; have e2 := i_le c_2; have q2 := i_sub s_1 n (by omega); exact i_nn (by omega)) (by have e1 := i_nle c_1; have z0 : (0 : Int32).toInt = 0 := rfl; have e2 := i_le c_2; have q2 := i_sub s_1 n (by omega); simp only [i_cl]; omega) (by have e1 := i_nle c_1; have z0 : (0 : Int32).toInt = 0 := rfl; have e2 := i_le c_2; have q2 := i_sub s_1 n (by omega); have z0 : (0 : Int32).toInt = 0 := rfl; simp only [i_cl]; omega) (fun j _ => fit_bit (hbits _)) (Nat.le_of_ble_eq_true rfl) (Nat.le_of_ble_eq_true rfl) dX2_cutFront_29 (fun H locs hP hD hS => ?_)
      have hP : va_P D vwCl [(h, .inr (1, [.ref ha0, .int s_1])), (ha0, .inl (cB, 8000, .inl (va_cpy s_0 s_0 (n : Int32).toNatClampNeg (0 : Int32).toNatClampNeg ((s_1 - n) : Int32).toNatClampNeg)))] H := hP
      have hD : va_D A [(h, .inr (1, [.ref ha0, .int s_1])), (ha0, .inl (cB, 8000, .inl (va_cpy s_0 s_0 (n : Int32).toNatClampNeg (0 : Int32).toNatClampNeg ((s_1 - n) : Int32).toNatClampNeg)))] := hD
      refine lv_aload_n hx hb dX2_cutFront_32 rfl (lv_at hl 0 rfl) ?_
      refine lv_dup hx hb dX2_cutFront_33 rfl ?_
      refine va_get (D := D) (ci := 1) (v := .int s_1) (C := RX2) (T := TX2) (N := 2) hx hb hts hiX2 hown hK hP 0 rfl rfl 1 (by decide) k15 (fun _ h9 => h9) rfl dX2_cutFront_34 ?_
      refine lv_iload_n hx hb dX2_cutFront_37 rfl (lv_at hl 1 rfl) ?_
      refine lv_isub hx hb dX2_cutFront_38 ?_
      refine va_put (D := D) (ci := 1) (v := .int (s_1 - n)) (ty := .int) (C := RX2) (T := TX2) (N := 2) hx hb hts hiX2 tyX2 tyX2_ok nmX2 hown hK hP hD hS 0 rfl rfl 1 (by decide) k15 (fun _ h9 => h9) rfl (by decide +kernel) rfl rfl (Nat.le_of_ble_eq_true rfl) dX2_cutFront_39 (fun H locs hP hD hS => ?_)
      have hP : va_P D vwCl [(h, .inr (1, [.ref ha0, .int (s_1 - n)])), (ha0, .inl (cB, 8000, .inl (va_cpy s_0 s_0 (n : Int32).toNatClampNeg (0 : Int32).toNatClampNeg ((s_1 - n) : Int32).toNatClampNeg)))] H := hP
      have hD : va_D A [(h, .inr (1, [.ref ha0, .int (s_1 - n)])), (ha0, .inl (cB, 8000, .inl (va_cpy s_0 s_0 (n : Int32).toNatClampNeg (0 : Int32).toNatClampNeg ((s_1 - n) : Int32).toNatClampNeg)))] := hD
      have hf : f_X2_cutFront n (s_0, s_1) = ((va_cpy s_0 s_0 (n : Int32).toNatClampNeg (0 : Int32).toNatClampNeg ((s_1 - n) : Int32).toNatClampNeg), (s_1 - n)) := by simp only [f_X2_cutFront, ↓if_neg c_1, ↓if_pos c_2]
      exact kretv hx hb hr hlocks hS hP hK hD dX2_cutFront_42 (congrArg (fun u : LnS => wLn cB cI cZ h ha0 u) hf).symm
    · have hf : f_X2_cutFront n (s_0, s_1) = (s_0, s_1) := by simp only [f_X2_cutFront, ↓if_neg c_1, ↓if_neg c_2]
      exact kretv hx hb hr hlocks hS hP hK hD dX2_cutFront_12 (congrArg (fun u : LnS => wLn cB cI cZ h ha0 u) hf).symm

theorem i_ne {x y : Int32} (h : ¬ x = y) : x.toInt ≠ y.toInt := fun q => h (i_eq q)
theorem i_mull {a : Int32} {c : Int} (z : a.toInt = c) (x : Int32) (h : -2147483648 ≤ c * x.toInt ∧ c * x.toInt ≤ 2147483647) : (a * x).toInt = c * x.toInt := by
  subst z
  exact i_mul a x h
abbrev A64S : Type := Nat → Int32
abbrev A16S : Type := Nat → Int32
abbrev wA64 (cB cI cZ : ClassId) (h : Nat) (S : A64S) : va_W := [(h, .inl (cI, 64, .inl (S)))]
abbrev wA16 (cB cI cZ : ClassId) (h : Nat) (S : A16S) : va_W := [(h, .inl (cI, 16, .inl (S)))]
theorem ones_back {v : Int32} {n : Nat} (h : 0 < n + 1 ∧ v.toInt < 2 ^ (n + 1 - 1)) (c : ¬ v ≤ 0) : 0 < n ∧ (v >>> ((1 : Int32) &&& 31)).toInt < 2 ^ (n - 1) := by
  have e := i_nle c
  have z : (0 : Int32).toInt = 0 := rfl
  have a := pk_shr v ((1 : Int32) &&& 31) 1 (by decide)
  have b : v.toInt >>> 1 = v.toInt / 2 := by rw [Int.shiftRight_eq_div_pow]; rfl
  rw [a, b]
  obtain ⟨-, h⟩ := h
  rw [Nat.add_sub_cancel] at h
  cases n with
  | zero => simp at h; omega
  | succ k =>
    refine ⟨Nat.succ_pos k, ?_⟩
    rw [Nat.add_sub_cancel]
    rw [Int.pow_succ] at h
    omega
theorem r32 {v x : Int32} (h : 0 ≤ v.toInt ∧ v.toInt ≤ 255) (e : x = v - v / 32 * 32) : x.toInt = v.toInt % 32 := by
  have z : (32 : Int32).toInt = 32 := rfl
  have hd : (v / 32).toInt = v.toInt.tdiv 32 := Int32.toInt_div_of_ne_right v 32 (by decide)
  have ht : v.toInt.tdiv 32 = v.toInt / 32 := Int.tdiv_eq_ediv_of_nonneg h.1
  have hm := i_mul (v / 32) 32 (by rw [z, hd, ht]; omega)
  have hs := i_sub v (v / 32 * 32) (by rw [hm, z, hd, ht]; omega)
  rw [e, hs, hm, z, hd, ht]
  omega
theorem d32 {v x : Int32} (h : 0 ≤ v.toInt ∧ v.toInt ≤ 255) (e : x = v / 32) : x.toInt = v.toInt / 32 := by
  have hd : (v / 32).toInt = v.toInt.tdiv 32 := Int32.toInt_div_of_ne_right v 32 (by decide)
  rw [e, hd, Int.tdiv_eq_ediv_of_nonneg h.1]

abbrev rmX7_form64 : Room := { frames := 0, cells := 0, slots := 0, locals := 0 }
def f_X7_form64 (k : Int32) (d : Int32) (S : A64S) : Int32 := match S with | S => (if d ≤ 0 then (S (((2 * k) + 0)).toNatClampNeg) else (S (((2 * k) + 1)).toNatClampNeg))
set_option maxHeartbeats 4000000 in
set_option maxRecDepth 100000 in
theorem c_X7_form64 (l : Launch) (D : va_G) (cB cI cZ : ClassId) (h : Nat) (S : A64S) (k : Int32) (d : Int32) (hk : 0 ≤ k.toInt ∧ k.toInt < 32) : CtI l yX7_form wsX7_form rmX7_form64 D (tyv cB cI cZ) [.ref h, .int k, .int d] (f_X7_form64 k d S) (wA64 cB cI cZ h S) (wA64 cB cI cZ h S) := by
  refine CtI.of (cc := cX7_form) (maxL := 3) (ret := (some .int)) (by decide +kernel) rfl (Nat.le_of_ble_eq_true rfl) ?_
  intro p e s m below meth c A ls hx hb hr hml hown hts hlocks hE hP hK hD hA hS hl
  have hown : s.vm.findClass RX7 = some m.cls := hown
  have hl : lv_has ls 3 [(0, .ref h), (1, .int k), (2, .int d)] := hl
  have hP : va_P D vwCl [(h, .inl (cI, 64, .inl S))] s.heap := hP
  have hD : va_D A [(h, .inl (cI, 64, .inl S))] := hD
  refine lv_aload_n hx hb dX7_form_0 rfl (lv_at hl 0 rfl) ?_
  refine lv_iconst (v := 2) hx hb dX7_form_1 (by decide) ?_
  refine lv_iload_n hx hb dX7_form_2 rfl (lv_at hl 1 rfl) ?_
  refine lv_imul hx hb dX7_form_3 ?_
  refine lv_iload_n hx hb dX7_form_4 rfl (lv_at hl 2 rfl) ?_
  refine lv_if_le (tgt := 12) hx hb dX7_form_5 (by decide) (fun c_1 => ?_) (fun c_1 => ?_)
  · refine lv_iconst (v := 0) hx hb dX7_form_12 (by decide) ?_
    refine lv_iadd hx hb dX7_form_13 ?_
    have h_2 : vp_in (((2 * k) + 0)) 64 := vp_in_iff.mpr (show 0 ≤ (((2 * k) + 0) : Int32).toInt ∧ (((2 * k) + 0) : Int32).toInt < ((64 : Nat) : Int) from by have z2 : (2 : Int32).toInt = 2 := rfl; have z1 : (1 : Int32).toInt = 1 := rfl; have z0 : (0 : Int32).toInt = 0 := rfl; have q := i_mull z2 k (by omega); have q1 := i_add (2 * k) 1 (by omega); have q0 := i_add (2 * k) 0 (by omega); omega)
    refine va_iald hx hb hK hP 0 1 rfl rfl h_2 dX7_form_14 ?_
    have hf : f_X7_form64 k d S = (S (((2 * k) + 0)).toNatClampNeg) := by simp only [f_X7_form64, ↓if_pos c_1]
    exact kreti hx hb hr hlocks hS hP hK hD dX7_form_15 hf.symm rfl
  · refine lv_iconst (v := 1) hx hb dX7_form_8 (by decide) ?_
    refine lv_goto (tgt := 13) hx hb dX7_form_9 (by decide) ?_
    refine lv_iadd hx hb dX7_form_13 ?_
    have h_3 : vp_in (((2 * k) + 1)) 64 := vp_in_iff.mpr (show 0 ≤ (((2 * k) + 1) : Int32).toInt ∧ (((2 * k) + 1) : Int32).toInt < ((64 : Nat) : Int) from by have z2 : (2 : Int32).toInt = 2 := rfl; have z1 : (1 : Int32).toInt = 1 := rfl; have z0 : (0 : Int32).toInt = 0 := rfl; have q := i_mull z2 k (by omega); have q1 := i_add (2 * k) 1 (by omega); have q0 := i_add (2 * k) 0 (by omega); omega)
    refine va_iald hx hb hK hP 0 1 rfl rfl h_3 dX7_form_14 ?_
    have hf : f_X7_form64 k d S = (S (((2 * k) + 1)).toNatClampNeg) := by simp only [f_X7_form64, ↓if_neg c_1]
    exact kreti hx hb hr hlocks hS hP hK hD dX7_form_15 hf.symm rfl

abbrev rmX7_form16 : Room := { frames := 0, cells := 0, slots := 0, locals := 0 }
def f_X7_form16 (k : Int32) (d : Int32) (S : A16S) : Int32 := match S with | S => (if d ≤ 0 then (S (((2 * k) + 0)).toNatClampNeg) else (S (((2 * k) + 1)).toNatClampNeg))
set_option maxHeartbeats 4000000 in
set_option maxRecDepth 100000 in
theorem c_X7_form16 (l : Launch) (D : va_G) (cB cI cZ : ClassId) (h : Nat) (S : A16S) (k : Int32) (d : Int32) (hk : 0 ≤ k.toInt ∧ k.toInt < 8) : CtI l yX7_form wsX7_form rmX7_form16 D (tyv cB cI cZ) [.ref h, .int k, .int d] (f_X7_form16 k d S) (wA16 cB cI cZ h S) (wA16 cB cI cZ h S) := by
  refine CtI.of (cc := cX7_form) (maxL := 3) (ret := (some .int)) (by decide +kernel) rfl (Nat.le_of_ble_eq_true rfl) ?_
  intro p e s m below meth c A ls hx hb hr hml hown hts hlocks hE hP hK hD hA hS hl
  have hown : s.vm.findClass RX7 = some m.cls := hown
  have hl : lv_has ls 3 [(0, .ref h), (1, .int k), (2, .int d)] := hl
  have hP : va_P D vwCl [(h, .inl (cI, 16, .inl S))] s.heap := hP
  have hD : va_D A [(h, .inl (cI, 16, .inl S))] := hD
  refine lv_aload_n hx hb dX7_form_0 rfl (lv_at hl 0 rfl) ?_
  refine lv_iconst (v := 2) hx hb dX7_form_1 (by decide) ?_
  refine lv_iload_n hx hb dX7_form_2 rfl (lv_at hl 1 rfl) ?_
  refine lv_imul hx hb dX7_form_3 ?_
  refine lv_iload_n hx hb dX7_form_4 rfl (lv_at hl 2 rfl) ?_
  refine lv_if_le (tgt := 12) hx hb dX7_form_5 (by decide) (fun c_1 => ?_) (fun c_1 => ?_)
  · refine lv_iconst (v := 0) hx hb dX7_form_12 (by decide) ?_
    refine lv_iadd hx hb dX7_form_13 ?_
    have h_2 : vp_in (((2 * k) + 0)) 16 := vp_in_iff.mpr (show 0 ≤ (((2 * k) + 0) : Int32).toInt ∧ (((2 * k) + 0) : Int32).toInt < ((16 : Nat) : Int) from by have z2 : (2 : Int32).toInt = 2 := rfl; have z1 : (1 : Int32).toInt = 1 := rfl; have z0 : (0 : Int32).toInt = 0 := rfl; have q := i_mull z2 k (by omega); have q1 := i_add (2 * k) 1 (by omega); have q0 := i_add (2 * k) 0 (by omega); omega)
    refine va_iald hx hb hK hP 0 1 rfl rfl h_2 dX7_form_14 ?_
    have hf : f_X7_form16 k d S = (S (((2 * k) + 0)).toNatClampNeg) := by simp only [f_X7_form16, ↓if_pos c_1]
    exact kreti hx hb hr hlocks hS hP hK hD dX7_form_15 hf.symm rfl
  · refine lv_iconst (v := 1) hx hb dX7_form_8 (by decide) ?_
    refine lv_goto (tgt := 13) hx hb dX7_form_9 (by decide) ?_
    refine lv_iadd hx hb dX7_form_13 ?_
    have h_3 : vp_in (((2 * k) + 1)) 16 := vp_in_iff.mpr (show 0 ≤ (((2 * k) + 1) : Int32).toInt ∧ (((2 * k) + 1) : Int32).toInt < ((16 : Nat) : Int) from by have z2 : (2 : Int32).toInt = 2 := rfl; have z1 : (1 : Int32).toInt = 1 := rfl; have z0 : (0 : Int32).toInt = 0 := rfl; have q := i_mull z2 k (by omega); have q1 := i_add (2 * k) 1 (by omega); have q0 := i_add (2 * k) 0 (by omega); omega)
    refine va_iald hx hb hK hP 0 1 rfl rfl h_3 dX7_form_14 ?_
    have hf : f_X7_form16 k d S = (S (((2 * k) + 1)).toNatClampNeg) := by simp only [f_X7_form16, ↓if_neg c_1]
    exact kreti hx hb hr hlocks hS hP hK hD dX7_form_15 hf.symm rfl

abbrev rmX7_ones : Room := { frames := 0, cells := 0, slots := 0, locals := 0 }
def lp_X7_ones_4 : Nat → Int32 → Int32 → Int32
  | 0, _, _ => 0
  | n + 1, v1, v2 => (if v2 ≤ 0 then v1 else (letv ((v1 + (v2 &&& 1))) (fun x_2 => (letv ((v2 >>> ((1 : Int32) &&& 31))) (fun x_3 => lp_X7_ones_4 n x_2 x_3)))))
set_option maxHeartbeats 4000000 in
set_option maxRecDepth 100000 in
theorem lq_X7_ones_4 (l : Launch) (D : va_G) (cB cI cZ : ClassId) {p : Program} {e : Env} {s : State} {m : MethodId} {args : Array Value} {below : List Frame} {meth : Method} {c : Code} {A : Nat → Prop} (hx : p.tables.exec = Jvm.exec) (hb : c.code = cX7_ones) (hr : meth.sig.returnType = (some .int)) (hml : c.maxLocals = 3) (hown : s.vm.findClass RX7 = some m.cls) (hts : ∀ w ∈ wsX7_ones, w.before args s = true) (hlocks : meth.locks = false) (hE : ev A s s.heap) (hK : va_K D vwCl (tyv cB cI cZ) s) (hA : ∀ q, s.heap.size ≤ q → A q) : ∀ (n : Nat) (v1 : Int32) (v2 : Int32), (0 < n ∧ v2.toInt < 2 ^ (n - 1)) → ∀ (H : Heap) (locs : List Loc), va_P D vwCl [] H → va_D A [] → va_S A s.heap H locs → ∀ (ls : Array Slot), lv_has ls 3 [(1, .int v1), (2, .int v2)] → W p l e rmX7_ones s m args below meth c H locs 0 0 (MQ below (kQi D (tyv cB cI cZ) A (lp_X7_ones_4 n v1 v2) ([])) args s 0 0 A) (F0 m 4 ls []) := by
  intro n
  induction n with
  | zero => intro v1 v2 hm; omega
  | succ n ih =>
    intro v1 v2 hm H locs hP hD hS ls hl
    refine lv_iload_n hx hb dX7_ones_4 rfl (lv_at hl 1 rfl) ?_
    refine lv_if_le (tgt := 21) hx hb dX7_ones_5 (by decide) (fun c_1 => ?_) (fun c_1 => ?_)
    · refine lv_iload_n hx hb dX7_ones_21 rfl (lv_at hl 0 rfl) ?_
      have hf : lp_X7_ones_4 (n + 1) v1 v2 = v1 := by simp only [lp_X7_ones_4, ↓if_pos c_1]
      exact kreti hx hb hr hlocks hS hP hK hD dX7_ones_22 hf.symm rfl
    · refine lv_iload_n hx hb dX7_ones_8 rfl (lv_at hl 0 rfl) ?_
      refine lv_iload_n hx hb dX7_ones_9 rfl (lv_at hl 1 rfl) ?_
      refine lv_iconst (v := 1) hx hb dX7_ones_10 (by decide) ?_
      refine lv_iand hx hb dX7_ones_11 ?_
      refine lv_iadd hx hb dX7_ones_12 ?_
      refine lv_topi (fun x_2 ex_2 => ?_)
      refine lv_istore_n (lv' := [(1, .int x_2), (2, .int v2)]) hx hb dX7_ones_13 rfl hl (by decide) rfl (fun ls hl => ?_)
      refine lv_iload_n hx hb dX7_ones_14 rfl (lv_at hl 1 rfl) ?_
      refine lv_iconst (v := 1) hx hb dX7_ones_15 (by decide) ?_
      refine lv_ishr hx hb dX7_ones_16 ?_
      refine lv_topi (fun x_3 ex_3 => ?_)
      refine lv_istore_n (lv' := [(2, .int x_3), (1, .int x_2)]) hx hb dX7_ones_17 rfl hl (by decide) rfl (fun ls hl => ?_)
      refine lv_goto (tgt := 4) hx hb dX7_ones_18 (by decide) ?_
      have hf : lp_X7_ones_4 (n + 1) v1 v2 = lp_X7_ones_4 n x_2 x_3 := by simp only [lp_X7_ones_4, ↓letv_eq ex_2, ↓letv_eq ex_3, ↓if_neg c_1]
      rw [hf]
      exact ih x_2 x_3 (by rw [ex_3]; exact ones_back hm c_1) _ _ hP hD hS ls (lv_sub hl [1, 0] rfl)
def f_X7_ones (v : Int32) : Int32 := (lp_X7_ones_4 32 0 v)
set_option maxHeartbeats 4000000 in
set_option maxRecDepth 100000 in
theorem c_X7_ones (l : Launch) (D : va_G) (cB cI cZ : ClassId) (v : Int32) : CtI l yX7_ones wsX7_ones rmX7_ones D (tyv cB cI cZ) [.int v] (f_X7_ones v) ([]) ([]) := by
  refine CtI.of (cc := cX7_ones) (maxL := 3) (ret := (some .int)) (by decide +kernel) rfl (Nat.le_of_ble_eq_true rfl) ?_
  intro p e s m below meth c A ls hx hb hr hml hown hts hlocks hE hP hK hD hA hS hl
  have hown : s.vm.findClass RX7 = some m.cls := hown
  have hl : lv_has ls 3 [(0, .int v)] := hl
  refine lv_iconst (v := 0) hx hb dX7_ones_0 (by decide) ?_
  refine lv_istore_n (lv' := [(1, .int 0), (0, .int v)]) hx hb dX7_ones_1 rfl hl (by decide) rfl (fun ls hl => ?_)
  refine lv_iload_n hx hb dX7_ones_2 rfl (lv_at hl 1 rfl) ?_
  refine lv_istore_n (lv' := [(2, .int v), (1, .int 0), (0, .int v)]) hx hb dX7_ones_3 rfl hl (by decide) rfl (fun ls hl => ?_)
  have hf : f_X7_ones v = lp_X7_ones_4 32 0 v := by simp only [f_X7_ones]
  rw [hf]
  exact lq_X7_ones_4 l D cB cI cZ hx hb hr hml hown hts hlocks hE hK hA 32 0 v (⟨by decide, by have q := i_bnd v; omega⟩) _ _ hP hD hS ls (lv_sub hl [1, 0] rfl)

abbrev rmX7_behind : Room := { frames := 1, cells := 0, slots := 0, locals := 22 }
def f_X7_behind (v : Int32) (bits : Int32) (d : Int32) : Int32 := (letv ((2 * (f_X7_ones v))) (fun x_1 => (if x_1 = bits then (if bits = 6 then (if v = 7 then 1 else (if v = 56 then (-1) else d)) else (if v = 3 then 1 else (if v = 12 then (-1) else d))) else (if x_1 ≤ bits then (-1) else 1))))
set_option maxHeartbeats 4000000 in
set_option maxRecDepth 100000 in
theorem c_X7_behind (l : Launch) (D : va_G) (cB cI cZ : ClassId) (v : Int32) (bits : Int32) (d : Int32) : CtI l yX7_behind wsX7_behind rmX7_behind D (tyv cB cI cZ) [.int v, .int bits, .int d] (f_X7_behind v bits d) ([]) ([]) := by
  refine CtI.of (cc := cX7_behind) (maxL := 6) (ret := (some .int)) (by decide +kernel) rfl (Nat.le_of_ble_eq_true rfl) ?_
  intro p e s m below meth c A ls hx hb hr hml hown hts hlocks hE hP hK hD hA hS hl
  have hown : s.vm.findClass RX7 = some m.cls := hown
  have hl : lv_has ls 6 [(0, .int v), (1, .int bits), (2, .int d)] := hl
  refine lv_iconst (v := 2) hx hb dX7_behind_0 (by decide) ?_
  refine lv_iload_n hx hb dX7_behind_1 rfl (lv_at hl 0 rfl) ?_
  refine kcall0 (krunS (As := [.int v]) (rest := [.int 2]) ⟨hx, hb, hml, hown, hts⟩ (c_X7_ones l D cB cI cZ v) (va_cwS 1 hts gX7_behind_X7_ones rfl rfl rfl (by decide +kernel) ⟨Nat.le_of_ble_eq_true rfl, Nat.le_of_ble_eq_true rfl⟩) hE hK hP hD hS hA [] rfl (by decide) rfl hl.1 rfl (Nat.le_of_ble_eq_true rfl) dX7_behind_2 ⟨Nat.zero_le _, Nat.zero_le _⟩) hP hS hA (fun H locs hP hS => ?_)
  refine lv_imul hx hb dX7_behind_5 ?_
  refine lv_topi (fun x_1 ex_1 => ?_)
  refine lv_istore_n (lv' := [(3, .int x_1), (0, .int v), (1, .int bits), (2, .int d)]) hx hb dX7_behind_6 rfl hl (by decide) rfl (fun ls hl => ?_)
  refine lv_iload_n hx hb dX7_behind_7 rfl (lv_at hl 0 rfl) ?_
  refine lv_iload_n hx hb dX7_behind_8 rfl (lv_at hl 2 rfl) ?_
  refine lv_icmp_eq (tgt := 23) hx hb dX7_behind_9 (by decide) (fun c_2 => ?_) (fun c_2 => ?_)
  · refine lv_iload_n hx hb dX7_behind_23 rfl (lv_at hl 2 rfl) ?_
    refine lv_bipush (v := 6) hx hb dX7_behind_24 (by decide) ?_
    refine lv_icmp_ne (tgt := 34) hx hb dX7_behind_26 (by decide) (fun c_3 => ?_) (fun c_3 => ?_)
    · refine lv_iconst (v := 3) hx hb dX7_behind_34 (by decide) ?_
      refine lv_istore (lv' := [(4, .int 3), (3, .int x_1), (0, .int v), (1, .int bits), (2, .int d)]) hx hb dX7_behind_35 hl (by decide) rfl (fun ls hl => ?_)
      refine lv_iload_n hx hb dX7_behind_37 rfl (lv_at hl 3 rfl) ?_
      refine lv_bipush (v := 6) hx hb dX7_behind_38 (by decide) ?_
      refine lv_icmp_ne (tgt := 48) hx hb dX7_behind_40 (by decide) (fun c_4 => ?_) (fun c_4 => ?_)
      · refine lv_bipush (v := 12) hx hb dX7_behind_48 (by decide) ?_
        refine lv_istore (lv' := [(5, .int 12), (4, .int 3), (3, .int x_1), (0, .int v), (1, .int bits), (2, .int d)]) hx hb dX7_behind_50 hl (by decide) rfl (fun ls hl => ?_)
        refine lv_iload_n hx hb dX7_behind_52 rfl (lv_at hl 3 rfl) ?_
        refine lv_iload hx hb dX7_behind_53 (lv_at hl 1 rfl) ?_
        refine lv_icmp_ne (tgt := 62) hx hb dX7_behind_55 (by decide) (fun c_5 => ?_) (fun c_5 => ?_)
        · refine lv_iload_n hx hb dX7_behind_62 rfl (lv_at hl 3 rfl) ?_
          refine lv_iload hx hb dX7_behind_63 (lv_at hl 0 rfl) ?_
          refine lv_icmp_ne (tgt := 72) hx hb dX7_behind_65 (by decide) (fun c_6 => ?_) (fun c_6 => ?_)
          · refine lv_iload_n hx hb dX7_behind_72 rfl (lv_at hl 5 rfl) ?_
            have hf : f_X7_behind v bits d = d := by simp only [f_X7_behind, ↓letv_eq ex_1, ↓if_pos c_2, ↓if_neg c_3, ↓if_neg c_5, ↓if_neg c_6]
            exact kreti hx hb hr hlocks hS hP hK hD dX7_behind_73 hf.symm rfl
          · refine lv_iconst (v := (-1)) hx hb dX7_behind_68 (by decide) ?_
            refine lv_goto (tgt := 73) hx hb dX7_behind_69 (by decide) ?_
            have hf : f_X7_behind v bits d = (-1) := by simp only [f_X7_behind, ↓letv_eq ex_1, ↓if_pos c_2, ↓if_neg c_3, ↓if_neg c_5, ↓if_pos c_6]
            exact kreti hx hb hr hlocks hS hP hK hD dX7_behind_73 hf.symm rfl
        · refine lv_iconst (v := 1) hx hb dX7_behind_58 (by decide) ?_
          refine lv_goto (tgt := 73) hx hb dX7_behind_59 (by decide) ?_
          have hf : f_X7_behind v bits d = 1 := by simp only [f_X7_behind, ↓letv_eq ex_1, ↓if_pos c_2, ↓if_neg c_3, ↓if_pos c_5]
          exact kreti hx hb hr hlocks hS hP hK hD dX7_behind_73 hf.symm rfl
      · exact absurd c_4 c_3
    · refine lv_bipush (v := 7) hx hb dX7_behind_29 (by decide) ?_
      refine lv_goto (tgt := 35) hx hb dX7_behind_31 (by decide) ?_
      refine lv_istore (lv' := [(4, .int 7), (3, .int x_1), (0, .int v), (1, .int bits), (2, .int d)]) hx hb dX7_behind_35 hl (by decide) rfl (fun ls hl => ?_)
      refine lv_iload_n hx hb dX7_behind_37 rfl (lv_at hl 3 rfl) ?_
      refine lv_bipush (v := 6) hx hb dX7_behind_38 (by decide) ?_
      refine lv_icmp_ne (tgt := 48) hx hb dX7_behind_40 (by decide) (fun c_7 => ?_) (fun c_7 => ?_)
      · exact absurd c_3 c_7
      · refine lv_bipush (v := 56) hx hb dX7_behind_43 (by decide) ?_
        refine lv_goto (tgt := 50) hx hb dX7_behind_45 (by decide) ?_
        refine lv_istore (lv' := [(5, .int 56), (4, .int 7), (3, .int x_1), (0, .int v), (1, .int bits), (2, .int d)]) hx hb dX7_behind_50 hl (by decide) rfl (fun ls hl => ?_)
        refine lv_iload_n hx hb dX7_behind_52 rfl (lv_at hl 3 rfl) ?_
        refine lv_iload hx hb dX7_behind_53 (lv_at hl 1 rfl) ?_
        refine lv_icmp_ne (tgt := 62) hx hb dX7_behind_55 (by decide) (fun c_8 => ?_) (fun c_8 => ?_)
        · refine lv_iload_n hx hb dX7_behind_62 rfl (lv_at hl 3 rfl) ?_
          refine lv_iload hx hb dX7_behind_63 (lv_at hl 0 rfl) ?_
          refine lv_icmp_ne (tgt := 72) hx hb dX7_behind_65 (by decide) (fun c_9 => ?_) (fun c_9 => ?_)
          · refine lv_iload_n hx hb dX7_behind_72 rfl (lv_at hl 5 rfl) ?_
            have hf : f_X7_behind v bits d = d := by simp only [f_X7_behind, ↓letv_eq ex_1, ↓if_pos c_2, ↓if_pos c_3, ↓if_neg c_8, ↓if_neg c_9]
            exact kreti hx hb hr hlocks hS hP hK hD dX7_behind_73 hf.symm rfl
          · refine lv_iconst (v := (-1)) hx hb dX7_behind_68 (by decide) ?_
            refine lv_goto (tgt := 73) hx hb dX7_behind_69 (by decide) ?_
            have hf : f_X7_behind v bits d = (-1) := by simp only [f_X7_behind, ↓letv_eq ex_1, ↓if_pos c_2, ↓if_pos c_3, ↓if_neg c_8, ↓if_pos c_9]
            exact kreti hx hb hr hlocks hS hP hK hD dX7_behind_73 hf.symm rfl
        · refine lv_iconst (v := 1) hx hb dX7_behind_58 (by decide) ?_
          refine lv_goto (tgt := 73) hx hb dX7_behind_59 (by decide) ?_
          have hf : f_X7_behind v bits d = 1 := by simp only [f_X7_behind, ↓letv_eq ex_1, ↓if_pos c_2, ↓if_pos c_3, ↓if_pos c_8]
          exact kreti hx hb hr hlocks hS hP hK hD dX7_behind_73 hf.symm rfl
  · refine lv_iload_n hx hb dX7_behind_12 rfl (lv_at hl 0 rfl) ?_
    refine lv_iload_n hx hb dX7_behind_13 rfl (lv_at hl 2 rfl) ?_
    refine lv_icmp_le (tgt := 21) hx hb dX7_behind_14 (by decide) (fun c_10 => ?_) (fun c_10 => ?_)
    · refine lv_iconst (v := (-1)) hx hb dX7_behind_21 (by decide) ?_
      have hf : f_X7_behind v bits d = (-1) := by simp only [f_X7_behind, ↓letv_eq ex_1, ↓if_neg c_2, ↓if_pos c_10]
      exact kreti hx hb hr hlocks hS hP hK hD dX7_behind_22 hf.symm rfl
    · refine lv_iconst (v := 1) hx hb dX7_behind_17 (by decide) ?_
      refine lv_goto (tgt := 22) hx hb dX7_behind_18 (by decide) ?_
      have hf : f_X7_behind v bits d = 1 := by simp only [f_X7_behind, ↓letv_eq ex_1, ↓if_neg c_2, ↓if_neg c_10]
      exact kreti hx hb hr hlocks hS hP hK hD dX7_behind_22 hf.symm rfl

abbrev rmX7_isSign : Room := { frames := 0, cells := 0, slots := 0, locals := 0 }
def f_X7_isSign (v : Int32) : Int32 := (letv ((v - v / 32 * 32)) (fun x_1 => (if v < 0 then 0 else (if (255 : Int32) < v then 0 else (if x_1 = 28 then 1 else (if (v / 32) = 7 then (if x_1 = 23 then 1 else (if x_1 = 27 then 1 else (if x_1 = 29 then 1 else (if x_1 = 30 then 1 else 0)))) else 0))))))
set_option maxHeartbeats 4000000 in
set_option maxRecDepth 100000 in
theorem c_X7_isSign (l : Launch) (D : va_G) (cB cI cZ : ClassId) (v : Int32) : CtI l yX7_isSign wsX7_isSign rmX7_isSign D (tyv cB cI cZ) [.int v] (f_X7_isSign v) ([]) ([]) := by
  refine CtI.of (cc := cX7_isSign) (maxL := 2) (ret := (some .boolean)) (by decide +kernel) rfl (Nat.le_of_ble_eq_true rfl) ?_
  intro p e s m below meth c A ls hx hb hr hml hown hts hlocks hE hP hK hD hA hS hl
  have hown : s.vm.findClass RX7 = some m.cls := hown
  have hl : lv_has ls 2 [(0, .int v)] := hl
  refine lv_iload_n hx hb dX7_isSign_0 rfl (lv_at hl 0 rfl) ?_
  refine lv_bipush (v := 32) hx hb dX7_isSign_1 (by decide) ?_
  refine lv_irem hx hb dX7_isSign_3 (by decide) ?_
  refine lv_topi (fun x_1 ex_1 => ?_)
  refine lv_istore_n (lv' := [(1, .int x_1), (0, .int v)]) hx hb dX7_isSign_4 rfl hl (by decide) rfl (fun ls hl => ?_)
  refine lv_iload_n hx hb dX7_isSign_5 rfl (lv_at hl 1 rfl) ?_
  refine lv_if_lt (tgt := 59) hx hb dX7_isSign_6 (by decide) (fun c_2 => ?_) (fun c_2 => ?_)
  · refine lv_iconst (v := 0) hx hb dX7_isSign_59 (by decide) ?_
    have hf : f_X7_isSign v = 0 := by simp only [f_X7_isSign, ↓letv_eq ex_1, ↓if_pos c_2]
    exact kretz hx hb hr hlocks hS hP hK hD dX7_isSign_60 (by rfl) hf.symm rfl
  · refine lv_iload_n hx hb dX7_isSign_9 rfl (lv_at hl 1 rfl) ?_
    refine lv_sipush (v := 255) hx hb dX7_isSign_10 (by decide) ?_
    refine lv_icmp_gt (tgt := 59) hx hb dX7_isSign_13 (by decide) (fun c_3 => ?_) (fun c_3 => ?_)
    · refine lv_iconst (v := 0) hx hb dX7_isSign_59 (by decide) ?_
      have hf : f_X7_isSign v = 0 := by simp only [f_X7_isSign, ↓letv_eq ex_1, ↓if_neg c_2, ↓if_pos c_3]
      exact kretz hx hb hr hlocks hS hP hK hD dX7_isSign_60 (by rfl) hf.symm rfl
    · refine lv_iload_n hx hb dX7_isSign_16 rfl (lv_at hl 0 rfl) ?_
      refine lv_bipush (v := 28) hx hb dX7_isSign_17 (by decide) ?_
      refine lv_icmp_eq (tgt := 55) hx hb dX7_isSign_19 (by decide) (fun c_4 => ?_) (fun c_4 => ?_)
      · refine lv_iconst (v := 1) hx hb dX7_isSign_55 (by decide) ?_
        refine lv_goto (tgt := 60) hx hb dX7_isSign_56 (by decide) ?_
        have hf : f_X7_isSign v = 1 := by simp only [f_X7_isSign, ↓letv_eq ex_1, ↓if_neg c_2, ↓if_neg c_3, ↓if_pos c_4]
        exact kretz hx hb hr hlocks hS hP hK hD dX7_isSign_60 (by rfl) hf.symm rfl
      · refine lv_iload_n hx hb dX7_isSign_22 rfl (lv_at hl 1 rfl) ?_
        refine lv_bipush (v := 32) hx hb dX7_isSign_23 (by decide) ?_
        refine lv_idiv hx hb dX7_isSign_25 (by decide) ?_
        refine lv_bipush (v := 7) hx hb dX7_isSign_26 (by decide) ?_
        refine lv_icmp_ne (tgt := 59) hx hb dX7_isSign_28 (by decide) (fun c_5 => ?_) (fun c_5 => ?_)
        · refine lv_iconst (v := 0) hx hb dX7_isSign_59 (by decide) ?_
          have hf : f_X7_isSign v = 0 := by simp only [f_X7_isSign, ↓letv_eq ex_1, ↓if_neg c_2, ↓if_neg c_3, ↓if_neg c_4, ↓if_neg c_5]
          exact kretz hx hb hr hlocks hS hP hK hD dX7_isSign_60 (by rfl) hf.symm rfl
        · refine lv_iload_n hx hb dX7_isSign_31 rfl (lv_at hl 0 rfl) ?_
          refine lv_bipush (v := 23) hx hb dX7_isSign_32 (by decide) ?_
          refine lv_icmp_eq (tgt := 55) hx hb dX7_isSign_34 (by decide) (fun c_6 => ?_) (fun c_6 => ?_)
          · refine lv_iconst (v := 1) hx hb dX7_isSign_55 (by decide) ?_
            refine lv_goto (tgt := 60) hx hb dX7_isSign_56 (by decide) ?_
            have hf : f_X7_isSign v = 1 := by simp only [f_X7_isSign, ↓letv_eq ex_1, ↓if_neg c_2, ↓if_neg c_3, ↓if_neg c_4, ↓if_pos c_5, ↓if_pos c_6]
            exact kretz hx hb hr hlocks hS hP hK hD dX7_isSign_60 (by rfl) hf.symm rfl
          · refine lv_iload_n hx hb dX7_isSign_37 rfl (lv_at hl 0 rfl) ?_
            refine lv_bipush (v := 27) hx hb dX7_isSign_38 (by decide) ?_
            refine lv_icmp_eq (tgt := 55) hx hb dX7_isSign_40 (by decide) (fun c_7 => ?_) (fun c_7 => ?_)
            · refine lv_iconst (v := 1) hx hb dX7_isSign_55 (by decide) ?_
              refine lv_goto (tgt := 60) hx hb dX7_isSign_56 (by decide) ?_
              have hf : f_X7_isSign v = 1 := by simp only [f_X7_isSign, ↓letv_eq ex_1, ↓if_neg c_2, ↓if_neg c_3, ↓if_neg c_4, ↓if_pos c_5, ↓if_neg c_6, ↓if_pos c_7]
              exact kretz hx hb hr hlocks hS hP hK hD dX7_isSign_60 (by rfl) hf.symm rfl
            · refine lv_iload_n hx hb dX7_isSign_43 rfl (lv_at hl 0 rfl) ?_
              refine lv_bipush (v := 29) hx hb dX7_isSign_44 (by decide) ?_
              refine lv_icmp_eq (tgt := 55) hx hb dX7_isSign_46 (by decide) (fun c_8 => ?_) (fun c_8 => ?_)
              · refine lv_iconst (v := 1) hx hb dX7_isSign_55 (by decide) ?_
                refine lv_goto (tgt := 60) hx hb dX7_isSign_56 (by decide) ?_
                have hf : f_X7_isSign v = 1 := by simp only [f_X7_isSign, ↓letv_eq ex_1, ↓if_neg c_2, ↓if_neg c_3, ↓if_neg c_4, ↓if_pos c_5, ↓if_neg c_6, ↓if_neg c_7, ↓if_pos c_8]
                exact kretz hx hb hr hlocks hS hP hK hD dX7_isSign_60 (by rfl) hf.symm rfl
              · refine lv_iload_n hx hb dX7_isSign_49 rfl (lv_at hl 0 rfl) ?_
                refine lv_bipush (v := 30) hx hb dX7_isSign_50 (by decide) ?_
                refine lv_icmp_ne (tgt := 59) hx hb dX7_isSign_52 (by decide) (fun c_9 => ?_) (fun c_9 => ?_)
                · refine lv_iconst (v := 0) hx hb dX7_isSign_59 (by decide) ?_
                  have hf : f_X7_isSign v = 0 := by simp only [f_X7_isSign, ↓letv_eq ex_1, ↓if_neg c_2, ↓if_neg c_3, ↓if_neg c_4, ↓if_pos c_5, ↓if_neg c_6, ↓if_neg c_7, ↓if_neg c_8, ↓if_neg c_9]
                  exact kretz hx hb hr hlocks hS hP hK hD dX7_isSign_60 (by rfl) hf.symm rfl
                · refine lv_iconst (v := 1) hx hb dX7_isSign_55 (by decide) ?_
                  refine lv_goto (tgt := 60) hx hb dX7_isSign_56 (by decide) ?_
                  have hf : f_X7_isSign v = 1 := by simp only [f_X7_isSign, ↓letv_eq ex_1, ↓if_neg c_2, ↓if_neg c_3, ↓if_neg c_4, ↓if_pos c_5, ↓if_neg c_6, ↓if_neg c_7, ↓if_neg c_8, ↓if_pos c_9]
                  exact kretz hx hb hr hlocks hS hP hK hD dX7_isSign_60 (by rfl) hf.symm rfl

abbrev rmX7_behindGroup : Room := { frames := 2, cells := 0, slots := 0, locals := 47 }
def f_X7_behindGroup (g : Int32) (d : Int32) : Int32 := (f_X7_behind ((g &&& 15)) 4 ((f_X7_behind ((g >>> ((4 : Int32) &&& 31))) 6 d)))
set_option maxHeartbeats 4000000 in
set_option maxRecDepth 100000 in
theorem c_X7_behindGroup (l : Launch) (D : va_G) (cB cI cZ : ClassId) (g : Int32) (d : Int32) : CtI l yX7_behindGroup wsX7_behindGroup rmX7_behindGroup D (tyv cB cI cZ) [.int g, .int d] (f_X7_behindGroup g d) ([]) ([]) := by
  refine CtI.of (cc := cX7_behindGroup) (maxL := 2) (ret := (some .int)) (by decide +kernel) rfl (Nat.le_of_ble_eq_true rfl) ?_
  intro p e s m below meth c A ls hx hb hr hml hown hts hlocks hE hP hK hD hA hS hl
  have hown : s.vm.findClass RX7 = some m.cls := hown
  have hl : lv_has ls 2 [(0, .int g), (1, .int d)] := hl
  refine lv_iload_n hx hb dX7_behindGroup_0 rfl (lv_at hl 0 rfl) ?_
  refine lv_bipush (v := 15) hx hb dX7_behindGroup_1 (by decide) ?_
  refine lv_iand hx hb dX7_behindGroup_3 ?_
  refine lv_iconst (v := 4) hx hb dX7_behindGroup_4 (by decide) ?_
  refine lv_iload_n hx hb dX7_behindGroup_5 rfl (lv_at hl 0 rfl) ?_
  refine lv_iconst (v := 4) hx hb dX7_behindGroup_6 (by decide) ?_
  refine lv_ishr hx hb dX7_behindGroup_7 ?_
  refine lv_bipush (v := 6) hx hb dX7_behindGroup_8 (by decide) ?_
  refine lv_iload_n hx hb dX7_behindGroup_10 rfl (lv_at hl 1 rfl) ?_
  refine kcall0 (krunS (As := [.int (g >>> ((4 : Int32) &&& 31)), .int 6, .int d]) (rest := [.int 4, .int (g &&& 15)]) ⟨hx, hb, hml, hown, hts⟩ (c_X7_behind l D cB cI cZ ((g >>> ((4 : Int32) &&& 31))) 6 d) (va_cwS 3 hts gX7_behindGroup_X7_behind rfl rfl rfl (by decide +kernel) ⟨Nat.le_of_ble_eq_true rfl, Nat.le_of_ble_eq_true rfl⟩) hE hK hP hD hS hA [] rfl (by decide) rfl hl.1 rfl (Nat.le_of_ble_eq_true rfl) dX7_behindGroup_11 ⟨Nat.zero_le _, Nat.zero_le _⟩) hP hS hA (fun H locs hP hS => ?_)
  refine kcall0 (krunS (As := [.int (g &&& 15), .int 4, .int (f_X7_behind ((g >>> ((4 : Int32) &&& 31))) 6 d)]) (rest := []) ⟨hx, hb, hml, hown, hts⟩ (c_X7_behind l D cB cI cZ ((g &&& 15)) 4 ((f_X7_behind ((g >>> ((4 : Int32) &&& 31))) 6 d))) (va_cwS 3 hts gX7_behindGroup_X7_behind rfl rfl rfl (by decide +kernel) ⟨Nat.le_of_ble_eq_true rfl, Nat.le_of_ble_eq_true rfl⟩) hE hK hP hD hS hA [] rfl (by decide) rfl hl.1 rfl (Nat.le_of_ble_eq_true rfl) dX7_behindGroup_14 ⟨Nat.zero_le _, Nat.zero_le _⟩) hP hS hA (fun H locs hP hS => ?_)
  have hf : f_X7_behindGroup g d = (f_X7_behind ((g &&& 15)) 4 ((f_X7_behind ((g >>> ((4 : Int32) &&& 31))) 6 d))) := by simp only [f_X7_behindGroup]
  exact kreti hx hb hr hlocks hS hP hK hD dX7_behindGroup_17 hf.symm rfl

abbrev rmX7_isComma : Room := { frames := 0, cells := 0, slots := 0, locals := 0 }
def f_X7_isComma (g : Int32) : Int32 := (if (g >>> ((3 : Int32) &&& 31)) = 31 then 1 else (if (g >>> ((3 : Int32) &&& 31)) = 96 then 1 else 0))
set_option maxHeartbeats 4000000 in
set_option maxRecDepth 100000 in
theorem c_X7_isComma (l : Launch) (D : va_G) (cB cI cZ : ClassId) (g : Int32) : CtI l yX7_isComma wsX7_isComma rmX7_isComma D (tyv cB cI cZ) [.int g] (f_X7_isComma g) ([]) ([]) := by
  refine CtI.of (cc := cX7_isComma) (maxL := 1) (ret := (some .boolean)) (by decide +kernel) rfl (Nat.le_of_ble_eq_true rfl) ?_
  intro p e s m below meth c A ls hx hb hr hml hown hts hlocks hE hP hK hD hA hS hl
  have hown : s.vm.findClass RX7 = some m.cls := hown
  have hl : lv_has ls 1 [(0, .int g)] := hl
  refine lv_iload_n hx hb dX7_isComma_0 rfl (lv_at hl 0 rfl) ?_
  refine lv_iconst (v := 3) hx hb dX7_isComma_1 (by decide) ?_
  refine lv_ishr hx hb dX7_isComma_2 ?_
  refine lv_bipush (v := 31) hx hb dX7_isComma_3 (by decide) ?_
  refine lv_icmp_eq (tgt := 16) hx hb dX7_isComma_5 (by decide) (fun c_1 => ?_) (fun c_1 => ?_)
  · refine lv_iconst (v := 1) hx hb dX7_isComma_16 (by decide) ?_
    refine lv_goto (tgt := 21) hx hb dX7_isComma_17 (by decide) ?_
    have hf : f_X7_isComma g = 1 := by simp only [f_X7_isComma, ↓if_pos c_1]
    exact kretz hx hb hr hlocks hS hP hK hD dX7_isComma_21 (by rfl) hf.symm rfl
  · refine lv_iload_n hx hb dX7_isComma_8 rfl (lv_at hl 0 rfl) ?_
    refine lv_iconst (v := 3) hx hb dX7_isComma_9 (by decide) ?_
    refine lv_ishr hx hb dX7_isComma_10 ?_
    refine lv_bipush (v := 96) hx hb dX7_isComma_11 (by decide) ?_
    refine lv_icmp_ne (tgt := 20) hx hb dX7_isComma_13 (by decide) (fun c_2 => ?_) (fun c_2 => ?_)
    · refine lv_iconst (v := 0) hx hb dX7_isComma_20 (by decide) ?_
      have hf : f_X7_isComma g = 0 := by simp only [f_X7_isComma, ↓if_neg c_1, ↓if_neg c_2]
      exact kretz hx hb hr hlocks hS hP hK hD dX7_isComma_21 (by rfl) hf.symm rfl
    · refine lv_iconst (v := 1) hx hb dX7_isComma_16 (by decide) ?_
      refine lv_goto (tgt := 21) hx hb dX7_isComma_17 (by decide) ?_
      have hf : f_X7_isComma g = 1 := by simp only [f_X7_isComma, ↓if_neg c_1, ↓if_pos c_2]
      exact kretz hx hb hr hlocks hS hP hK hD dX7_isComma_21 (by rfl) hf.symm rfl

abbrev rmX7_groupOf : Room := { frames := 2, cells := 0, slots := 0, locals := 47 }
def jn_X7_groupOf_168 (v6 : Int32) (v8 : Int32) (M : MdS) : Int32 := match M with | (lm_0, lm_1, lm_2, lm_3, lm_4, lm_5, lm_6, lm_7, lm_8, lm_9, lm_10, lm_11, lm_12, lm_13, lm_14, lm_15, lm_16, lm_17, lm_18, lm_19, lm_20, lm_21, lm_22, lm_23, lm_24, lm_25, lm_26, lm_27, lm_28, lm_29, lm_30, lm_31) => ((v6 <<< ((4 : Int32) &&& 31)) ||| v8)
set_option maxHeartbeats 4000000 in
set_option maxRecDepth 100000 in
theorem jq_X7_groupOf_168 (l : Launch) (D : va_G) (cB cI cZ : ClassId) (h ha0 ha1 ha2 ha3 ha5 ha20 ha25 ha27 ha28 ha29 : Nat) {p : Program} {e : Env} {s : State} {m : MethodId} {args : Array Value} {below : List Frame} {meth : Method} {c : Code} {A : Nat → Prop} (hx : p.tables.exec = Jvm.exec) (hb : c.code = cX7_groupOf) (hr : meth.sig.returnType = (some .int)) (hml : c.maxLocals = 9) (hown : s.vm.findClass RX7 = some m.cls) (hts : ∀ w ∈ wsX7_groupOf, w.before args s = true) (hlocks : meth.locks = false) (hE : ev A s s.heap) (hK : va_K D vwCl (tyv cB cI cZ) s) (hA : ∀ q, s.heap.size ≤ q → A q) : ∀ (v6 : Int32) (v8 : Int32) (lm_0 : Nat → Int32) (lm_1 : Nat → Int32) (lm_2 : Nat → Int32) (lm_3 : Nat → Int32) (lm_4 : Int32) (lm_5 : Nat → Int32) (lm_6 : Int32) (lm_7 : Int32) (lm_8 : Int32) (lm_9 : Int32) (lm_10 : Int32) (lm_11 : Int32) (lm_12 : Int32) (lm_13 : Int32) (lm_14 : Int32) (lm_15 : Int32) (lm_16 : Int32) (lm_17 : Int32) (lm_18 : Int32) (lm_19 : Int32) (lm_20 : Nat → Int32) (lm_21 : Int32) (lm_22 : Int32) (lm_23 : Int32) (lm_24 : Int32) (lm_25 : Nat → Int32) (lm_26 : Int32) (lm_27 : Nat → Int32) (lm_28 : Nat → Int32) (lm_29 : Nat → Int32) (lm_30 : Int32) (lm_31 : Int32), (True) → ∀ (H : Heap) (locs : List Loc), va_P D vwCl [(h, .inr (6, [.ref ha0, .ref ha1, .ref ha2, .ref ha3, .int lm_4, .ref ha5, .int lm_6, .int lm_7, .int lm_8, .int lm_9, .int lm_10, .int lm_11, .int lm_12, .int lm_13, .int lm_14, .int lm_15, .int lm_16, .int lm_17, .int lm_18, .int lm_19, .ref ha20, .int lm_21, .int lm_22, .int lm_23, .int lm_24, .ref ha25, .int lm_26, .ref ha27, .ref ha28, .ref ha29, .int lm_30, .int lm_31])), (ha0, .inl (cI, 64, .inl lm_0)), (ha1, .inl (cI, 16, .inl lm_1)), (ha2, .inl (cI, 16, .inl lm_2)), (ha3, .inl (cB, 8000, .inl lm_3)), (ha5, .inl (cB, 400, .inl lm_5)), (ha20, .inl (cI, 100, .inl lm_20)), (ha25, .inl (cB, 300, .inl lm_25)), (ha27, .inl (cI, 40, .inl lm_27)), (ha28, .inl (cZ, 40, .inl lm_28)), (ha29, .inl (cB, 12000, .inl lm_29))] H → va_D A [(h, .inr (6, [.ref ha0, .ref ha1, .ref ha2, .ref ha3, .int lm_4, .ref ha5, .int lm_6, .int lm_7, .int lm_8, .int lm_9, .int lm_10, .int lm_11, .int lm_12, .int lm_13, .int lm_14, .int lm_15, .int lm_16, .int lm_17, .int lm_18, .int lm_19, .ref ha20, .int lm_21, .int lm_22, .int lm_23, .int lm_24, .ref ha25, .int lm_26, .ref ha27, .ref ha28, .ref ha29, .int lm_30, .int lm_31])), (ha0, .inl (cI, 64, .inl lm_0)), (ha1, .inl (cI, 16, .inl lm_1)), (ha2, .inl (cI, 16, .inl lm_2)), (ha3, .inl (cB, 8000, .inl lm_3)), (ha5, .inl (cB, 400, .inl lm_5)), (ha20, .inl (cI, 100, .inl lm_20)), (ha25, .inl (cB, 300, .inl lm_25)), (ha27, .inl (cI, 40, .inl lm_27)), (ha28, .inl (cZ, 40, .inl lm_28)), (ha29, .inl (cB, 12000, .inl lm_29))] → va_S A s.heap H locs → ∀ (ls : Array Slot), lv_has ls 9 [(6, .int v6), (8, .int v8)] → W p l e rmX7_groupOf s m args below meth c H locs 0 0 (MQ below (kQi D (tyv cB cI cZ) A (jn_X7_groupOf_168 v6 v8 (lm_0, lm_1, lm_2, lm_3, lm_4, lm_5, lm_6, lm_7, lm_8, lm_9, lm_10, lm_11, lm_12, lm_13, lm_14, lm_15, lm_16, lm_17, lm_18, lm_19, lm_20, lm_21, lm_22, lm_23, lm_24, lm_25, lm_26, lm_27, lm_28, lm_29, lm_30, lm_31)) ((wMd cB cI cZ h ha0 ha1 ha2 ha3 ha5 ha20 ha25 ha27 ha28 ha29 (lm_0, lm_1, lm_2, lm_3, lm_4, lm_5, lm_6, lm_7, lm_8, lm_9, lm_10, lm_11, lm_12, lm_13, lm_14, lm_15, lm_16, lm_17, lm_18, lm_19, lm_20, lm_21, lm_22, lm_23, lm_24, lm_25, lm_26, lm_27, lm_28, lm_29, lm_30, lm_31)))) args s 0 0 A) (F0 m 168 ls []) := by
  intro v6 v8 lm_0 lm_1 lm_2 lm_3 lm_4 lm_5 lm_6 lm_7 lm_8 lm_9 lm_10 lm_11 lm_12 lm_13 lm_14 lm_15 lm_16 lm_17 lm_18 lm_19 lm_20 lm_21 lm_22 lm_23 lm_24 lm_25 lm_26 lm_27 lm_28 lm_29 lm_30 lm_31 hm H locs hP hD hS ls hl
  refine lv_iload hx hb dX7_groupOf_168 (lv_at hl 0 rfl) ?_
  refine lv_iconst (v := 4) hx hb dX7_groupOf_170 (by decide) ?_
  refine lv_ishl hx hb dX7_groupOf_171 ?_
  refine lv_iload hx hb dX7_groupOf_172 (lv_at hl 1 rfl) ?_
  refine lv_ior hx hb dX7_groupOf_174 ?_
  have hf : jn_X7_groupOf_168 v6 v8 (lm_0, lm_1, lm_2, lm_3, lm_4, lm_5, lm_6, lm_7, lm_8, lm_9, lm_10, lm_11, lm_12, lm_13, lm_14, lm_15, lm_16, lm_17, lm_18, lm_19, lm_20, lm_21, lm_22, lm_23, lm_24, lm_25, lm_26, lm_27, lm_28, lm_29, lm_30, lm_31) = ((v6 <<< ((4 : Int32) &&& 31)) ||| v8) := by simp only [jn_X7_groupOf_168]
  exact kreti hx hb hr hlocks hS hP hK hD dX7_groupOf_175 hf.symm rfl
def jn_X7_groupOf_83 (v2 : Int32) (v4 : Int32) (v5 : Int32) (v6 : Int32) (v7 : Int32) (v8 : Int32) (M : MdS) : Int32 := match M with | (lm_0, lm_1, lm_2, lm_3, lm_4, lm_5, lm_6, lm_7, lm_8, lm_9, lm_10, lm_11, lm_12, lm_13, lm_14, lm_15, lm_16, lm_17, lm_18, lm_19, lm_20, lm_21, lm_22, lm_23, lm_24, lm_25, lm_26, lm_27, lm_28, lm_29, lm_30, lm_31) => (if v2 = 0 then (if v5 = 7 then (if (0 : Int32) ≤ v7 then (if v7 ≤ 0 then (jn_X7_groupOf_168 v6 v8 (lm_0, lm_1, lm_2, lm_3, lm_4, lm_5, lm_6, lm_7, lm_8, lm_9, lm_10, lm_11, lm_12, lm_13, lm_14, lm_15, lm_16, lm_17, lm_18, lm_19, lm_20, lm_21, lm_22, lm_23, lm_24, lm_25, lm_26, lm_27, lm_28, lm_29, lm_30, lm_31)) else (if v4 = 11 then (jn_X7_groupOf_168 v6 8 (lm_0, lm_1, lm_2, lm_3, lm_4, lm_5, lm_6, lm_7, lm_8, lm_9, lm_10, lm_11, lm_12, lm_13, lm_14, lm_15, lm_16, lm_17, lm_18, lm_19, lm_20, lm_21, lm_22, lm_23, lm_24, lm_25, lm_26, lm_27, lm_28, lm_29, lm_30, lm_31)) else (if v4 = 13 then (jn_X7_groupOf_168 v6 8 (lm_0, lm_1, lm_2, lm_3, lm_4, lm_5, lm_6, lm_7, lm_8, lm_9, lm_10, lm_11, lm_12, lm_13, lm_14, lm_15, lm_16, lm_17, lm_18, lm_19, lm_20, lm_21, lm_22, lm_23, lm_24, lm_25, lm_26, lm_27, lm_28, lm_29, lm_30, lm_31)) else (if v4 = 14 then (jn_X7_groupOf_168 v6 8 (lm_0, lm_1, lm_2, lm_3, lm_4, lm_5, lm_6, lm_7, lm_8, lm_9, lm_10, lm_11, lm_12, lm_13, lm_14, lm_15, lm_16, lm_17, lm_18, lm_19, lm_20, lm_21, lm_22, lm_23, lm_24, lm_25, lm_26, lm_27, lm_28, lm_29, lm_30, lm_31)) else (jn_X7_groupOf_168 v6 v8 (lm_0, lm_1, lm_2, lm_3, lm_4, lm_5, lm_6, lm_7, lm_8, lm_9, lm_10, lm_11, lm_12, lm_13, lm_14, lm_15, lm_16, lm_17, lm_18, lm_19, lm_20, lm_21, lm_22, lm_23, lm_24, lm_25, lm_26, lm_27, lm_28, lm_29, lm_30, lm_31)))))) else (if v4 = 17 then (jn_X7_groupOf_168 v6 7 (lm_0, lm_1, lm_2, lm_3, lm_4, lm_5, lm_6, lm_7, lm_8, lm_9, lm_10, lm_11, lm_12, lm_13, lm_14, lm_15, lm_16, lm_17, lm_18, lm_19, lm_20, lm_21, lm_22, lm_23, lm_24, lm_25, lm_26, lm_27, lm_28, lm_29, lm_30, lm_31)) else (if v4 = 18 then (jn_X7_groupOf_168 v6 7 (lm_0, lm_1, lm_2, lm_3, lm_4, lm_5, lm_6, lm_7, lm_8, lm_9, lm_10, lm_11, lm_12, lm_13, lm_14, lm_15, lm_16, lm_17, lm_18, lm_19, lm_20, lm_21, lm_22, lm_23, lm_24, lm_25, lm_26, lm_27, lm_28, lm_29, lm_30, lm_31)) else (if v4 = 20 then (jn_X7_groupOf_168 v6 7 (lm_0, lm_1, lm_2, lm_3, lm_4, lm_5, lm_6, lm_7, lm_8, lm_9, lm_10, lm_11, lm_12, lm_13, lm_14, lm_15, lm_16, lm_17, lm_18, lm_19, lm_20, lm_21, lm_22, lm_23, lm_24, lm_25, lm_26, lm_27, lm_28, lm_29, lm_30, lm_31)) else (if v7 ≤ 0 then (jn_X7_groupOf_168 v6 v8 (lm_0, lm_1, lm_2, lm_3, lm_4, lm_5, lm_6, lm_7, lm_8, lm_9, lm_10, lm_11, lm_12, lm_13, lm_14, lm_15, lm_16, lm_17, lm_18, lm_19, lm_20, lm_21, lm_22, lm_23, lm_24, lm_25, lm_26, lm_27, lm_28, lm_29, lm_30, lm_31)) else (if v4 = 11 then (jn_X7_groupOf_168 v6 8 (lm_0, lm_1, lm_2, lm_3, lm_4, lm_5, lm_6, lm_7, lm_8, lm_9, lm_10, lm_11, lm_12, lm_13, lm_14, lm_15, lm_16, lm_17, lm_18, lm_19, lm_20, lm_21, lm_22, lm_23, lm_24, lm_25, lm_26, lm_27, lm_28, lm_29, lm_30, lm_31)) else (if v4 = 13 then (jn_X7_groupOf_168 v6 8 (lm_0, lm_1, lm_2, lm_3, lm_4, lm_5, lm_6, lm_7, lm_8, lm_9, lm_10, lm_11, lm_12, lm_13, lm_14, lm_15, lm_16, lm_17, lm_18, lm_19, lm_20, lm_21, lm_22, lm_23, lm_24, lm_25, lm_26, lm_27, lm_28, lm_29, lm_30, lm_31)) else (if v4 = 14 then (jn_X7_groupOf_168 v6 8 (lm_0, lm_1, lm_2, lm_3, lm_4, lm_5, lm_6, lm_7, lm_8, lm_9, lm_10, lm_11, lm_12, lm_13, lm_14, lm_15, lm_16, lm_17, lm_18, lm_19, lm_20, lm_21, lm_22, lm_23, lm_24, lm_25, lm_26, lm_27, lm_28, lm_29, lm_30, lm_31)) else (jn_X7_groupOf_168 v6 v8 (lm_0, lm_1, lm_2, lm_3, lm_4, lm_5, lm_6, lm_7, lm_8, lm_9, lm_10, lm_11, lm_12, lm_13, lm_14, lm_15, lm_16, lm_17, lm_18, lm_19, lm_20, lm_21, lm_22, lm_23, lm_24, lm_25, lm_26, lm_27, lm_28, lm_29, lm_30, lm_31)))))))))) else (jn_X7_groupOf_168 v6 v8 (lm_0, lm_1, lm_2, lm_3, lm_4, lm_5, lm_6, lm_7, lm_8, lm_9, lm_10, lm_11, lm_12, lm_13, lm_14, lm_15, lm_16, lm_17, lm_18, lm_19, lm_20, lm_21, lm_22, lm_23, lm_24, lm_25, lm_26, lm_27, lm_28, lm_29, lm_30, lm_31))) else (jn_X7_groupOf_168 v6 v8 (lm_0, lm_1, lm_2, lm_3, lm_4, lm_5, lm_6, lm_7, lm_8, lm_9, lm_10, lm_11, lm_12, lm_13, lm_14, lm_15, lm_16, lm_17, lm_18, lm_19, lm_20, lm_21, lm_22, lm_23, lm_24, lm_25, lm_26, lm_27, lm_28, lm_29, lm_30, lm_31)))
set_option maxHeartbeats 4000000 in
set_option maxRecDepth 100000 in
theorem jq_X7_groupOf_83 (l : Launch) (D : va_G) (cB cI cZ : ClassId) (h ha0 ha1 ha2 ha3 ha5 ha20 ha25 ha27 ha28 ha29 : Nat) {p : Program} {e : Env} {s : State} {m : MethodId} {args : Array Value} {below : List Frame} {meth : Method} {c : Code} {A : Nat → Prop} (hx : p.tables.exec = Jvm.exec) (hb : c.code = cX7_groupOf) (hr : meth.sig.returnType = (some .int)) (hml : c.maxLocals = 9) (hown : s.vm.findClass RX7 = some m.cls) (hts : ∀ w ∈ wsX7_groupOf, w.before args s = true) (hlocks : meth.locks = false) (hE : ev A s s.heap) (hK : va_K D vwCl (tyv cB cI cZ) s) (hA : ∀ q, s.heap.size ≤ q → A q) : ∀ (v2 : Int32) (v4 : Int32) (v5 : Int32) (v6 : Int32) (v7 : Int32) (v8 : Int32) (lm_0 : Nat → Int32) (lm_1 : Nat → Int32) (lm_2 : Nat → Int32) (lm_3 : Nat → Int32) (lm_4 : Int32) (lm_5 : Nat → Int32) (lm_6 : Int32) (lm_7 : Int32) (lm_8 : Int32) (lm_9 : Int32) (lm_10 : Int32) (lm_11 : Int32) (lm_12 : Int32) (lm_13 : Int32) (lm_14 : Int32) (lm_15 : Int32) (lm_16 : Int32) (lm_17 : Int32) (lm_18 : Int32) (lm_19 : Int32) (lm_20 : Nat → Int32) (lm_21 : Int32) (lm_22 : Int32) (lm_23 : Int32) (lm_24 : Int32) (lm_25 : Nat → Int32) (lm_26 : Int32) (lm_27 : Nat → Int32) (lm_28 : Nat → Int32) (lm_29 : Nat → Int32) (lm_30 : Int32) (lm_31 : Int32), (True) → ∀ (H : Heap) (locs : List Loc), va_P D vwCl [(h, .inr (6, [.ref ha0, .ref ha1, .ref ha2, .ref ha3, .int lm_4, .ref ha5, .int lm_6, .int lm_7, .int lm_8, .int lm_9, .int lm_10, .int lm_11, .int lm_12, .int lm_13, .int lm_14, .int lm_15, .int lm_16, .int lm_17, .int lm_18, .int lm_19, .ref ha20, .int lm_21, .int lm_22, .int lm_23, .int lm_24, .ref ha25, .int lm_26, .ref ha27, .ref ha28, .ref ha29, .int lm_30, .int lm_31])), (ha0, .inl (cI, 64, .inl lm_0)), (ha1, .inl (cI, 16, .inl lm_1)), (ha2, .inl (cI, 16, .inl lm_2)), (ha3, .inl (cB, 8000, .inl lm_3)), (ha5, .inl (cB, 400, .inl lm_5)), (ha20, .inl (cI, 100, .inl lm_20)), (ha25, .inl (cB, 300, .inl lm_25)), (ha27, .inl (cI, 40, .inl lm_27)), (ha28, .inl (cZ, 40, .inl lm_28)), (ha29, .inl (cB, 12000, .inl lm_29))] H → va_D A [(h, .inr (6, [.ref ha0, .ref ha1, .ref ha2, .ref ha3, .int lm_4, .ref ha5, .int lm_6, .int lm_7, .int lm_8, .int lm_9, .int lm_10, .int lm_11, .int lm_12, .int lm_13, .int lm_14, .int lm_15, .int lm_16, .int lm_17, .int lm_18, .int lm_19, .ref ha20, .int lm_21, .int lm_22, .int lm_23, .int lm_24, .ref ha25, .int lm_26, .ref ha27, .ref ha28, .ref ha29, .int lm_30, .int lm_31])), (ha0, .inl (cI, 64, .inl lm_0)), (ha1, .inl (cI, 16, .inl lm_1)), (ha2, .inl (cI, 16, .inl lm_2)), (ha3, .inl (cB, 8000, .inl lm_3)), (ha5, .inl (cB, 400, .inl lm_5)), (ha20, .inl (cI, 100, .inl lm_20)), (ha25, .inl (cB, 300, .inl lm_25)), (ha27, .inl (cI, 40, .inl lm_27)), (ha28, .inl (cZ, 40, .inl lm_28)), (ha29, .inl (cB, 12000, .inl lm_29))] → va_S A s.heap H locs → ∀ (ls : Array Slot), lv_has ls 9 [(0, .ref h), (2, .int v2), (4, .int v4), (5, .int v5), (6, .int v6), (7, .int v7), (8, .int v8)] → W p l e rmX7_groupOf s m args below meth c H locs 0 0 (MQ below (kQi D (tyv cB cI cZ) A (jn_X7_groupOf_83 v2 v4 v5 v6 v7 v8 (lm_0, lm_1, lm_2, lm_3, lm_4, lm_5, lm_6, lm_7, lm_8, lm_9, lm_10, lm_11, lm_12, lm_13, lm_14, lm_15, lm_16, lm_17, lm_18, lm_19, lm_20, lm_21, lm_22, lm_23, lm_24, lm_25, lm_26, lm_27, lm_28, lm_29, lm_30, lm_31)) ((wMd cB cI cZ h ha0 ha1 ha2 ha3 ha5 ha20 ha25 ha27 ha28 ha29 (lm_0, lm_1, lm_2, lm_3, lm_4, lm_5, lm_6, lm_7, lm_8, lm_9, lm_10, lm_11, lm_12, lm_13, lm_14, lm_15, lm_16, lm_17, lm_18, lm_19, lm_20, lm_21, lm_22, lm_23, lm_24, lm_25, lm_26, lm_27, lm_28, lm_29, lm_30, lm_31)))) args s 0 0 A) (F0 m 83 ls []) := by
  intro v2 v4 v5 v6 v7 v8 lm_0 lm_1 lm_2 lm_3 lm_4 lm_5 lm_6 lm_7 lm_8 lm_9 lm_10 lm_11 lm_12 lm_13 lm_14 lm_15 lm_16 lm_17 lm_18 lm_19 lm_20 lm_21 lm_22 lm_23 lm_24 lm_25 lm_26 lm_27 lm_28 lm_29 lm_30 lm_31 hm H locs hP hD hS ls hl
  refine lv_iload_n hx hb dX7_groupOf_83 rfl (lv_at hl 1 rfl) ?_
  refine lv_if_ne (tgt := 127) hx hb dX7_groupOf_84 (by decide) (fun c_1 => ?_) (fun c_1 => ?_)
  · refine lv_iload_n hx hb dX7_groupOf_127 rfl (lv_at hl 1 rfl) ?_
    refine lv_if_ne (tgt := 168) hx hb dX7_groupOf_128 (by decide) (fun c_2 => ?_) (fun c_2 => ?_)
    · have hf : jn_X7_groupOf_83 v2 v4 v5 v6 v7 v8 (lm_0, lm_1, lm_2, lm_3, lm_4, lm_5, lm_6, lm_7, lm_8, lm_9, lm_10, lm_11, lm_12, lm_13, lm_14, lm_15, lm_16, lm_17, lm_18, lm_19, lm_20, lm_21, lm_22, lm_23, lm_24, lm_25, lm_26, lm_27, lm_28, lm_29, lm_30, lm_31) = jn_X7_groupOf_168 v6 v8 (lm_0, lm_1, lm_2, lm_3, lm_4, lm_5, lm_6, lm_7, lm_8, lm_9, lm_10, lm_11, lm_12, lm_13, lm_14, lm_15, lm_16, lm_17, lm_18, lm_19, lm_20, lm_21, lm_22, lm_23, lm_24, lm_25, lm_26, lm_27, lm_28, lm_29, lm_30, lm_31) := by simp only [jn_X7_groupOf_83, ↓if_neg c_1]
      rw [hf]
      exact jq_X7_groupOf_168 l D cB cI cZ h ha0 ha1 ha2 ha3 ha5 ha20 ha25 ha27 ha28 ha29 hx hb hr hml hown hts hlocks hE hK hA  v6 v8 lm_0 lm_1 lm_2 lm_3 lm_4 lm_5 lm_6 lm_7 lm_8 lm_9 lm_10 lm_11 lm_12 lm_13 lm_14 lm_15 lm_16 lm_17 lm_18 lm_19 lm_20 lm_21 lm_22 lm_23 lm_24 lm_25 lm_26 lm_27 lm_28 lm_29 lm_30 lm_31 (trivial) _ _ hP hD hS ls (lv_sub hl [4, 6] rfl)
    · exact absurd c_2 c_1
  · refine lv_iload hx hb dX7_groupOf_87 (lv_at hl 3 rfl) ?_
    refine lv_bipush (v := 7) hx hb dX7_groupOf_89 (by decide) ?_
    refine lv_icmp_ne (tgt := 127) hx hb dX7_groupOf_91 (by decide) (fun c_3 => ?_) (fun c_3 => ?_)
    · refine lv_iload_n hx hb dX7_groupOf_127 rfl (lv_at hl 1 rfl) ?_
      refine lv_if_ne (tgt := 168) hx hb dX7_groupOf_128 (by decide) (fun c_4 => ?_) (fun c_4 => ?_)
      · exact absurd c_1 c_4
      · refine lv_iload hx hb dX7_groupOf_131 (lv_at hl 3 rfl) ?_
        refine lv_bipush (v := 7) hx hb dX7_groupOf_133 (by decide) ?_
        refine lv_icmp_ne (tgt := 168) hx hb dX7_groupOf_135 (by decide) (fun c_5 => ?_) (fun c_5 => ?_)
        · have hf : jn_X7_groupOf_83 v2 v4 v5 v6 v7 v8 (lm_0, lm_1, lm_2, lm_3, lm_4, lm_5, lm_6, lm_7, lm_8, lm_9, lm_10, lm_11, lm_12, lm_13, lm_14, lm_15, lm_16, lm_17, lm_18, lm_19, lm_20, lm_21, lm_22, lm_23, lm_24, lm_25, lm_26, lm_27, lm_28, lm_29, lm_30, lm_31) = jn_X7_groupOf_168 v6 v8 (lm_0, lm_1, lm_2, lm_3, lm_4, lm_5, lm_6, lm_7, lm_8, lm_9, lm_10, lm_11, lm_12, lm_13, lm_14, lm_15, lm_16, lm_17, lm_18, lm_19, lm_20, lm_21, lm_22, lm_23, lm_24, lm_25, lm_26, lm_27, lm_28, lm_29, lm_30, lm_31) := by simp only [jn_X7_groupOf_83, ↓if_pos c_1, ↓if_neg c_3]
          rw [hf]
          exact jq_X7_groupOf_168 l D cB cI cZ h ha0 ha1 ha2 ha3 ha5 ha20 ha25 ha27 ha28 ha29 hx hb hr hml hown hts hlocks hE hK hA  v6 v8 lm_0 lm_1 lm_2 lm_3 lm_4 lm_5 lm_6 lm_7 lm_8 lm_9 lm_10 lm_11 lm_12 lm_13 lm_14 lm_15 lm_16 lm_17 lm_18 lm_19 lm_20 lm_21 lm_22 lm_23 lm_24 lm_25 lm_26 lm_27 lm_28 lm_29 lm_30 lm_31 (trivial) _ _ hP hD hS ls (lv_sub hl [4, 6] rfl)
        · exact absurd c_5 c_3
    · refine lv_iload hx hb dX7_groupOf_94 (lv_at hl 5 rfl) ?_
      refine lv_if_ge (tgt := 127) hx hb dX7_groupOf_96 (by decide) (fun c_6 => ?_) (fun c_6 => ?_)
      · refine lv_iload_n hx hb dX7_groupOf_127 rfl (lv_at hl 1 rfl) ?_
        refine lv_if_ne (tgt := 168) hx hb dX7_groupOf_128 (by decide) (fun c_7 => ?_) (fun c_7 => ?_)
        · exact absurd c_1 c_7
        · refine lv_iload hx hb dX7_groupOf_131 (lv_at hl 3 rfl) ?_
          refine lv_bipush (v := 7) hx hb dX7_groupOf_133 (by decide) ?_
          refine lv_icmp_ne (tgt := 168) hx hb dX7_groupOf_135 (by decide) (fun c_8 => ?_) (fun c_8 => ?_)
          · exact absurd c_3 c_8
          · refine lv_iload hx hb dX7_groupOf_138 (lv_at hl 5 rfl) ?_
            refine lv_if_le (tgt := 168) hx hb dX7_groupOf_140 (by decide) (fun c_9 => ?_) (fun c_9 => ?_)
            · have hf : jn_X7_groupOf_83 v2 v4 v5 v6 v7 v8 (lm_0, lm_1, lm_2, lm_3, lm_4, lm_5, lm_6, lm_7, lm_8, lm_9, lm_10, lm_11, lm_12, lm_13, lm_14, lm_15, lm_16, lm_17, lm_18, lm_19, lm_20, lm_21, lm_22, lm_23, lm_24, lm_25, lm_26, lm_27, lm_28, lm_29, lm_30, lm_31) = jn_X7_groupOf_168 v6 v8 (lm_0, lm_1, lm_2, lm_3, lm_4, lm_5, lm_6, lm_7, lm_8, lm_9, lm_10, lm_11, lm_12, lm_13, lm_14, lm_15, lm_16, lm_17, lm_18, lm_19, lm_20, lm_21, lm_22, lm_23, lm_24, lm_25, lm_26, lm_27, lm_28, lm_29, lm_30, lm_31) := by simp only [jn_X7_groupOf_83, ↓if_pos c_1, ↓if_pos c_3, ↓if_pos c_6, ↓if_pos c_9]
              rw [hf]
              exact jq_X7_groupOf_168 l D cB cI cZ h ha0 ha1 ha2 ha3 ha5 ha20 ha25 ha27 ha28 ha29 hx hb hr hml hown hts hlocks hE hK hA  v6 v8 lm_0 lm_1 lm_2 lm_3 lm_4 lm_5 lm_6 lm_7 lm_8 lm_9 lm_10 lm_11 lm_12 lm_13 lm_14 lm_15 lm_16 lm_17 lm_18 lm_19 lm_20 lm_21 lm_22 lm_23 lm_24 lm_25 lm_26 lm_27 lm_28 lm_29 lm_30 lm_31 (trivial) _ _ hP hD hS ls (lv_sub hl [4, 6] rfl)
            · refine lv_iload hx hb dX7_groupOf_143 (lv_at hl 2 rfl) ?_
              refine lv_bipush (v := 11) hx hb dX7_groupOf_145 (by decide) ?_
              refine lv_icmp_eq (tgt := 164) hx hb dX7_groupOf_147 (by decide) (fun c_10 => ?_) (fun c_10 => ?_)
              · refine lv_bipush (v := 8) hx hb dX7_groupOf_164 (by decide) ?_
                refine lv_istore (lv' := [(8, .int 8), (0, .ref h), (2, .int v2), (4, .int v4), (5, .int v5), (6, .int v6), (7, .int v7)]) hx hb dX7_groupOf_166 hl (by decide) rfl (fun ls hl => ?_)
                have hf : jn_X7_groupOf_83 v2 v4 v5 v6 v7 v8 (lm_0, lm_1, lm_2, lm_3, lm_4, lm_5, lm_6, lm_7, lm_8, lm_9, lm_10, lm_11, lm_12, lm_13, lm_14, lm_15, lm_16, lm_17, lm_18, lm_19, lm_20, lm_21, lm_22, lm_23, lm_24, lm_25, lm_26, lm_27, lm_28, lm_29, lm_30, lm_31) = jn_X7_groupOf_168 v6 8 (lm_0, lm_1, lm_2, lm_3, lm_4, lm_5, lm_6, lm_7, lm_8, lm_9, lm_10, lm_11, lm_12, lm_13, lm_14, lm_15, lm_16, lm_17, lm_18, lm_19, lm_20, lm_21, lm_22, lm_23, lm_24, lm_25, lm_26, lm_27, lm_28, lm_29, lm_30, lm_31) := by simp only [jn_X7_groupOf_83, ↓if_pos c_1, ↓if_pos c_3, ↓if_pos c_6, ↓if_neg c_9, ↓if_pos c_10]
                rw [hf]
                exact jq_X7_groupOf_168 l D cB cI cZ h ha0 ha1 ha2 ha3 ha5 ha20 ha25 ha27 ha28 ha29 hx hb hr hml hown hts hlocks hE hK hA  v6 8 lm_0 lm_1 lm_2 lm_3 lm_4 lm_5 lm_6 lm_7 lm_8 lm_9 lm_10 lm_11 lm_12 lm_13 lm_14 lm_15 lm_16 lm_17 lm_18 lm_19 lm_20 lm_21 lm_22 lm_23 lm_24 lm_25 lm_26 lm_27 lm_28 lm_29 lm_30 lm_31 (trivial) _ _ hP hD hS ls (lv_sub hl [5, 0] rfl)
              · refine lv_iload hx hb dX7_groupOf_150 (lv_at hl 2 rfl) ?_
                refine lv_bipush (v := 13) hx hb dX7_groupOf_152 (by decide) ?_
                refine lv_icmp_eq (tgt := 164) hx hb dX7_groupOf_154 (by decide) (fun c_11 => ?_) (fun c_11 => ?_)
                · refine lv_bipush (v := 8) hx hb dX7_groupOf_164 (by decide) ?_
                  refine lv_istore (lv' := [(8, .int 8), (0, .ref h), (2, .int v2), (4, .int v4), (5, .int v5), (6, .int v6), (7, .int v7)]) hx hb dX7_groupOf_166 hl (by decide) rfl (fun ls hl => ?_)
                  have hf : jn_X7_groupOf_83 v2 v4 v5 v6 v7 v8 (lm_0, lm_1, lm_2, lm_3, lm_4, lm_5, lm_6, lm_7, lm_8, lm_9, lm_10, lm_11, lm_12, lm_13, lm_14, lm_15, lm_16, lm_17, lm_18, lm_19, lm_20, lm_21, lm_22, lm_23, lm_24, lm_25, lm_26, lm_27, lm_28, lm_29, lm_30, lm_31) = jn_X7_groupOf_168 v6 8 (lm_0, lm_1, lm_2, lm_3, lm_4, lm_5, lm_6, lm_7, lm_8, lm_9, lm_10, lm_11, lm_12, lm_13, lm_14, lm_15, lm_16, lm_17, lm_18, lm_19, lm_20, lm_21, lm_22, lm_23, lm_24, lm_25, lm_26, lm_27, lm_28, lm_29, lm_30, lm_31) := by simp only [jn_X7_groupOf_83, ↓if_pos c_1, ↓if_pos c_3, ↓if_pos c_6, ↓if_neg c_9, ↓if_neg c_10, ↓if_pos c_11]
                  rw [hf]
                  exact jq_X7_groupOf_168 l D cB cI cZ h ha0 ha1 ha2 ha3 ha5 ha20 ha25 ha27 ha28 ha29 hx hb hr hml hown hts hlocks hE hK hA  v6 8 lm_0 lm_1 lm_2 lm_3 lm_4 lm_5 lm_6 lm_7 lm_8 lm_9 lm_10 lm_11 lm_12 lm_13 lm_14 lm_15 lm_16 lm_17 lm_18 lm_19 lm_20 lm_21 lm_22 lm_23 lm_24 lm_25 lm_26 lm_27 lm_28 lm_29 lm_30 lm_31 (trivial) _ _ hP hD hS ls (lv_sub hl [5, 0] rfl)
                · refine lv_iload hx hb dX7_groupOf_157 (lv_at hl 2 rfl) ?_
                  refine lv_bipush (v := 14) hx hb dX7_groupOf_159 (by decide) ?_
                  refine lv_icmp_ne (tgt := 168) hx hb dX7_groupOf_161 (by decide) (fun c_12 => ?_) (fun c_12 => ?_)
                  · have hf : jn_X7_groupOf_83 v2 v4 v5 v6 v7 v8 (lm_0, lm_1, lm_2, lm_3, lm_4, lm_5, lm_6, lm_7, lm_8, lm_9, lm_10, lm_11, lm_12, lm_13, lm_14, lm_15, lm_16, lm_17, lm_18, lm_19, lm_20, lm_21, lm_22, lm_23, lm_24, lm_25, lm_26, lm_27, lm_28, lm_29, lm_30, lm_31) = jn_X7_groupOf_168 v6 v8 (lm_0, lm_1, lm_2, lm_3, lm_4, lm_5, lm_6, lm_7, lm_8, lm_9, lm_10, lm_11, lm_12, lm_13, lm_14, lm_15, lm_16, lm_17, lm_18, lm_19, lm_20, lm_21, lm_22, lm_23, lm_24, lm_25, lm_26, lm_27, lm_28, lm_29, lm_30, lm_31) := by simp only [jn_X7_groupOf_83, ↓if_pos c_1, ↓if_pos c_3, ↓if_pos c_6, ↓if_neg c_9, ↓if_neg c_10, ↓if_neg c_11, ↓if_neg c_12]
                    rw [hf]
                    exact jq_X7_groupOf_168 l D cB cI cZ h ha0 ha1 ha2 ha3 ha5 ha20 ha25 ha27 ha28 ha29 hx hb hr hml hown hts hlocks hE hK hA  v6 v8 lm_0 lm_1 lm_2 lm_3 lm_4 lm_5 lm_6 lm_7 lm_8 lm_9 lm_10 lm_11 lm_12 lm_13 lm_14 lm_15 lm_16 lm_17 lm_18 lm_19 lm_20 lm_21 lm_22 lm_23 lm_24 lm_25 lm_26 lm_27 lm_28 lm_29 lm_30 lm_31 (trivial) _ _ hP hD hS ls (lv_sub hl [4, 6] rfl)
                  · refine lv_bipush (v := 8) hx hb dX7_groupOf_164 (by decide) ?_
                    refine lv_istore (lv' := [(8, .int 8), (0, .ref h), (2, .int v2), (4, .int v4), (5, .int v5), (6, .int v6), (7, .int v7)]) hx hb dX7_groupOf_166 hl (by decide) rfl (fun ls hl => ?_)
                    have hf : jn_X7_groupOf_83 v2 v4 v5 v6 v7 v8 (lm_0, lm_1, lm_2, lm_3, lm_4, lm_5, lm_6, lm_7, lm_8, lm_9, lm_10, lm_11, lm_12, lm_13, lm_14, lm_15, lm_16, lm_17, lm_18, lm_19, lm_20, lm_21, lm_22, lm_23, lm_24, lm_25, lm_26, lm_27, lm_28, lm_29, lm_30, lm_31) = jn_X7_groupOf_168 v6 8 (lm_0, lm_1, lm_2, lm_3, lm_4, lm_5, lm_6, lm_7, lm_8, lm_9, lm_10, lm_11, lm_12, lm_13, lm_14, lm_15, lm_16, lm_17, lm_18, lm_19, lm_20, lm_21, lm_22, lm_23, lm_24, lm_25, lm_26, lm_27, lm_28, lm_29, lm_30, lm_31) := by simp only [jn_X7_groupOf_83, ↓if_pos c_1, ↓if_pos c_3, ↓if_pos c_6, ↓if_neg c_9, ↓if_neg c_10, ↓if_neg c_11, ↓if_pos c_12]
                    rw [hf]
                    exact jq_X7_groupOf_168 l D cB cI cZ h ha0 ha1 ha2 ha3 ha5 ha20 ha25 ha27 ha28 ha29 hx hb hr hml hown hts hlocks hE hK hA  v6 8 lm_0 lm_1 lm_2 lm_3 lm_4 lm_5 lm_6 lm_7 lm_8 lm_9 lm_10 lm_11 lm_12 lm_13 lm_14 lm_15 lm_16 lm_17 lm_18 lm_19 lm_20 lm_21 lm_22 lm_23 lm_24 lm_25 lm_26 lm_27 lm_28 lm_29 lm_30 lm_31 (trivial) _ _ hP hD hS ls (lv_sub hl [5, 0] rfl)
      · refine lv_iload hx hb dX7_groupOf_99 (lv_at hl 2 rfl) ?_
        refine lv_bipush (v := 17) hx hb dX7_groupOf_101 (by decide) ?_
        refine lv_icmp_eq (tgt := 120) hx hb dX7_groupOf_103 (by decide) (fun c_13 => ?_) (fun c_13 => ?_)
        · refine lv_bipush (v := 7) hx hb dX7_groupOf_120 (by decide) ?_
          refine lv_istore (lv' := [(8, .int 7), (0, .ref h), (2, .int v2), (4, .int v4), (5, .int v5), (6, .int v6), (7, .int v7)]) hx hb dX7_groupOf_122 hl (by decide) rfl (fun ls hl => ?_)
          refine lv_goto (tgt := 168) hx hb dX7_groupOf_124 (by decide) ?_
          have hf : jn_X7_groupOf_83 v2 v4 v5 v6 v7 v8 (lm_0, lm_1, lm_2, lm_3, lm_4, lm_5, lm_6, lm_7, lm_8, lm_9, lm_10, lm_11, lm_12, lm_13, lm_14, lm_15, lm_16, lm_17, lm_18, lm_19, lm_20, lm_21, lm_22, lm_23, lm_24, lm_25, lm_26, lm_27, lm_28, lm_29, lm_30, lm_31) = jn_X7_groupOf_168 v6 7 (lm_0, lm_1, lm_2, lm_3, lm_4, lm_5, lm_6, lm_7, lm_8, lm_9, lm_10, lm_11, lm_12, lm_13, lm_14, lm_15, lm_16, lm_17, lm_18, lm_19, lm_20, lm_21, lm_22, lm_23, lm_24, lm_25, lm_26, lm_27, lm_28, lm_29, lm_30, lm_31) := by simp only [jn_X7_groupOf_83, ↓if_pos c_1, ↓if_pos c_3, ↓if_neg c_6, ↓if_pos c_13]
          rw [hf]
          exact jq_X7_groupOf_168 l D cB cI cZ h ha0 ha1 ha2 ha3 ha5 ha20 ha25 ha27 ha28 ha29 hx hb hr hml hown hts hlocks hE hK hA  v6 7 lm_0 lm_1 lm_2 lm_3 lm_4 lm_5 lm_6 lm_7 lm_8 lm_9 lm_10 lm_11 lm_12 lm_13 lm_14 lm_15 lm_16 lm_17 lm_18 lm_19 lm_20 lm_21 lm_22 lm_23 lm_24 lm_25 lm_26 lm_27 lm_28 lm_29 lm_30 lm_31 (trivial) _ _ hP hD hS ls (lv_sub hl [5, 0] rfl)
        · refine lv_iload hx hb dX7_groupOf_106 (lv_at hl 2 rfl) ?_
          refine lv_bipush (v := 18) hx hb dX7_groupOf_108 (by decide) ?_
          refine lv_icmp_eq (tgt := 120) hx hb dX7_groupOf_110 (by decide) (fun c_14 => ?_) (fun c_14 => ?_)
          · refine lv_bipush (v := 7) hx hb dX7_groupOf_120 (by decide) ?_
            refine lv_istore (lv' := [(8, .int 7), (0, .ref h), (2, .int v2), (4, .int v4), (5, .int v5), (6, .int v6), (7, .int v7)]) hx hb dX7_groupOf_122 hl (by decide) rfl (fun ls hl => ?_)
            refine lv_goto (tgt := 168) hx hb dX7_groupOf_124 (by decide) ?_
            have hf : jn_X7_groupOf_83 v2 v4 v5 v6 v7 v8 (lm_0, lm_1, lm_2, lm_3, lm_4, lm_5, lm_6, lm_7, lm_8, lm_9, lm_10, lm_11, lm_12, lm_13, lm_14, lm_15, lm_16, lm_17, lm_18, lm_19, lm_20, lm_21, lm_22, lm_23, lm_24, lm_25, lm_26, lm_27, lm_28, lm_29, lm_30, lm_31) = jn_X7_groupOf_168 v6 7 (lm_0, lm_1, lm_2, lm_3, lm_4, lm_5, lm_6, lm_7, lm_8, lm_9, lm_10, lm_11, lm_12, lm_13, lm_14, lm_15, lm_16, lm_17, lm_18, lm_19, lm_20, lm_21, lm_22, lm_23, lm_24, lm_25, lm_26, lm_27, lm_28, lm_29, lm_30, lm_31) := by simp only [jn_X7_groupOf_83, ↓if_pos c_1, ↓if_pos c_3, ↓if_neg c_6, ↓if_neg c_13, ↓if_pos c_14]
            rw [hf]
            exact jq_X7_groupOf_168 l D cB cI cZ h ha0 ha1 ha2 ha3 ha5 ha20 ha25 ha27 ha28 ha29 hx hb hr hml hown hts hlocks hE hK hA  v6 7 lm_0 lm_1 lm_2 lm_3 lm_4 lm_5 lm_6 lm_7 lm_8 lm_9 lm_10 lm_11 lm_12 lm_13 lm_14 lm_15 lm_16 lm_17 lm_18 lm_19 lm_20 lm_21 lm_22 lm_23 lm_24 lm_25 lm_26 lm_27 lm_28 lm_29 lm_30 lm_31 (trivial) _ _ hP hD hS ls (lv_sub hl [5, 0] rfl)
          · refine lv_iload hx hb dX7_groupOf_113 (lv_at hl 2 rfl) ?_
            refine lv_bipush (v := 20) hx hb dX7_groupOf_115 (by decide) ?_
            refine lv_icmp_ne (tgt := 127) hx hb dX7_groupOf_117 (by decide) (fun c_15 => ?_) (fun c_15 => ?_)
            · refine lv_iload_n hx hb dX7_groupOf_127 rfl (lv_at hl 1 rfl) ?_
              refine lv_if_ne (tgt := 168) hx hb dX7_groupOf_128 (by decide) (fun c_16 => ?_) (fun c_16 => ?_)
              · exact absurd c_1 c_16
              · refine lv_iload hx hb dX7_groupOf_131 (lv_at hl 3 rfl) ?_
                refine lv_bipush (v := 7) hx hb dX7_groupOf_133 (by decide) ?_
                refine lv_icmp_ne (tgt := 168) hx hb dX7_groupOf_135 (by decide) (fun c_17 => ?_) (fun c_17 => ?_)
                · exact absurd c_3 c_17
                · refine lv_iload hx hb dX7_groupOf_138 (lv_at hl 5 rfl) ?_
                  refine lv_if_le (tgt := 168) hx hb dX7_groupOf_140 (by decide) (fun c_18 => ?_) (fun c_18 => ?_)
                  · have hf : jn_X7_groupOf_83 v2 v4 v5 v6 v7 v8 (lm_0, lm_1, lm_2, lm_3, lm_4, lm_5, lm_6, lm_7, lm_8, lm_9, lm_10, lm_11, lm_12, lm_13, lm_14, lm_15, lm_16, lm_17, lm_18, lm_19, lm_20, lm_21, lm_22, lm_23, lm_24, lm_25, lm_26, lm_27, lm_28, lm_29, lm_30, lm_31) = jn_X7_groupOf_168 v6 v8 (lm_0, lm_1, lm_2, lm_3, lm_4, lm_5, lm_6, lm_7, lm_8, lm_9, lm_10, lm_11, lm_12, lm_13, lm_14, lm_15, lm_16, lm_17, lm_18, lm_19, lm_20, lm_21, lm_22, lm_23, lm_24, lm_25, lm_26, lm_27, lm_28, lm_29, lm_30, lm_31) := by simp only [jn_X7_groupOf_83, ↓if_pos c_1, ↓if_pos c_3, ↓if_neg c_6, ↓if_neg c_13, ↓if_neg c_14, ↓if_neg c_15, ↓if_pos c_18]
                    rw [hf]
                    exact jq_X7_groupOf_168 l D cB cI cZ h ha0 ha1 ha2 ha3 ha5 ha20 ha25 ha27 ha28 ha29 hx hb hr hml hown hts hlocks hE hK hA  v6 v8 lm_0 lm_1 lm_2 lm_3 lm_4 lm_5 lm_6 lm_7 lm_8 lm_9 lm_10 lm_11 lm_12 lm_13 lm_14 lm_15 lm_16 lm_17 lm_18 lm_19 lm_20 lm_21 lm_22 lm_23 lm_24 lm_25 lm_26 lm_27 lm_28 lm_29 lm_30 lm_31 (trivial) _ _ hP hD hS ls (lv_sub hl [4, 6] rfl)
                  · refine lv_iload hx hb dX7_groupOf_143 (lv_at hl 2 rfl) ?_
                    refine lv_bipush (v := 11) hx hb dX7_groupOf_145 (by decide) ?_
                    refine lv_icmp_eq (tgt := 164) hx hb dX7_groupOf_147 (by decide) (fun c_19 => ?_) (fun c_19 => ?_)
                    · refine lv_bipush (v := 8) hx hb dX7_groupOf_164 (by decide) ?_
                      refine lv_istore (lv' := [(8, .int 8), (0, .ref h), (2, .int v2), (4, .int v4), (5, .int v5), (6, .int v6), (7, .int v7)]) hx hb dX7_groupOf_166 hl (by decide) rfl (fun ls hl => ?_)
                      have hf : jn_X7_groupOf_83 v2 v4 v5 v6 v7 v8 (lm_0, lm_1, lm_2, lm_3, lm_4, lm_5, lm_6, lm_7, lm_8, lm_9, lm_10, lm_11, lm_12, lm_13, lm_14, lm_15, lm_16, lm_17, lm_18, lm_19, lm_20, lm_21, lm_22, lm_23, lm_24, lm_25, lm_26, lm_27, lm_28, lm_29, lm_30, lm_31) = jn_X7_groupOf_168 v6 8 (lm_0, lm_1, lm_2, lm_3, lm_4, lm_5, lm_6, lm_7, lm_8, lm_9, lm_10, lm_11, lm_12, lm_13, lm_14, lm_15, lm_16, lm_17, lm_18, lm_19, lm_20, lm_21, lm_22, lm_23, lm_24, lm_25, lm_26, lm_27, lm_28, lm_29, lm_30, lm_31) := by simp only [jn_X7_groupOf_83, ↓if_pos c_1, ↓if_pos c_3, ↓if_neg c_6, ↓if_neg c_13, ↓if_neg c_14, ↓if_neg c_15, ↓if_neg c_18, ↓if_pos c_19]
                      rw [hf]
                      exact jq_X7_groupOf_168 l D cB cI cZ h ha0 ha1 ha2 ha3 ha5 ha20 ha25 ha27 ha28 ha29 hx hb hr hml hown hts hlocks hE hK hA  v6 8 lm_0 lm_1 lm_2 lm_3 lm_4 lm_5 lm_6 lm_7 lm_8 lm_9 lm_10 lm_11 lm_12 lm_13 lm_14 lm_15 lm_16 lm_17 lm_18 lm_19 lm_20 lm_21 lm_22 lm_23 lm_24 lm_25 lm_26 lm_27 lm_28 lm_29 lm_30 lm_31 (trivial) _ _ hP hD hS ls (lv_sub hl [5, 0] rfl)
                    · refine lv_iload hx hb dX7_groupOf_150 (lv_at hl 2 rfl) ?_
                      refine lv_bipush (v := 13) hx hb dX7_groupOf_152 (by decide) ?_
                      refine lv_icmp_eq (tgt := 164) hx hb dX7_groupOf_154 (by decide) (fun c_20 => ?_) (fun c_20 => ?_)
                      · refine lv_bipush (v := 8) hx hb dX7_groupOf_164 (by decide) ?_
                        refine lv_istore (lv' := [(8, .int 8), (0, .ref h), (2, .int v2), (4, .int v4), (5, .int v5), (6, .int v6), (7, .int v7)]) hx hb dX7_groupOf_166 hl (by decide) rfl (fun ls hl => ?_)
                        have hf : jn_X7_groupOf_83 v2 v4 v5 v6 v7 v8 (lm_0, lm_1, lm_2, lm_3, lm_4, lm_5, lm_6, lm_7, lm_8, lm_9, lm_10, lm_11, lm_12, lm_13, lm_14, lm_15, lm_16, lm_17, lm_18, lm_19, lm_20, lm_21, lm_22, lm_23, lm_24, lm_25, lm_26, lm_27, lm_28, lm_29, lm_30, lm_31) = jn_X7_groupOf_168 v6 8 (lm_0, lm_1, lm_2, lm_3, lm_4, lm_5, lm_6, lm_7, lm_8, lm_9, lm_10, lm_11, lm_12, lm_13, lm_14, lm_15, lm_16, lm_17, lm_18, lm_19, lm_20, lm_21, lm_22, lm_23, lm_24, lm_25, lm_26, lm_27, lm_28, lm_29, lm_30, lm_31) := by simp only [jn_X7_groupOf_83, ↓if_pos c_1, ↓if_pos c_3, ↓if_neg c_6, ↓if_neg c_13, ↓if_neg c_14, ↓if_neg c_15, ↓if_neg c_18, ↓if_neg c_19, ↓if_pos c_20]
                        rw [hf]
                        exact jq_X7_groupOf_168 l D cB cI cZ h ha0 ha1 ha2 ha3 ha5 ha20 ha25 ha27 ha28 ha29 hx hb hr hml hown hts hlocks hE hK hA  v6 8 lm_0 lm_1 lm_2 lm_3 lm_4 lm_5 lm_6 lm_7 lm_8 lm_9 lm_10 lm_11 lm_12 lm_13 lm_14 lm_15 lm_16 lm_17 lm_18 lm_19 lm_20 lm_21 lm_22 lm_23 lm_24 lm_25 lm_26 lm_27 lm_28 lm_29 lm_30 lm_31 (trivial) _ _ hP hD hS ls (lv_sub hl [5, 0] rfl)
                      · refine lv_iload hx hb dX7_groupOf_157 (lv_at hl 2 rfl) ?_
                        refine lv_bipush (v := 14) hx hb dX7_groupOf_159 (by decide) ?_
                        refine lv_icmp_ne (tgt := 168) hx hb dX7_groupOf_161 (by decide) (fun c_21 => ?_) (fun c_21 => ?_)
                        · have hf : jn_X7_groupOf_83 v2 v4 v5 v6 v7 v8 (lm_0, lm_1, lm_2, lm_3, lm_4, lm_5, lm_6, lm_7, lm_8, lm_9, lm_10, lm_11, lm_12, lm_13, lm_14, lm_15, lm_16, lm_17, lm_18, lm_19, lm_20, lm_21, lm_22, lm_23, lm_24, lm_25, lm_26, lm_27, lm_28, lm_29, lm_30, lm_31) = jn_X7_groupOf_168 v6 v8 (lm_0, lm_1, lm_2, lm_3, lm_4, lm_5, lm_6, lm_7, lm_8, lm_9, lm_10, lm_11, lm_12, lm_13, lm_14, lm_15, lm_16, lm_17, lm_18, lm_19, lm_20, lm_21, lm_22, lm_23, lm_24, lm_25, lm_26, lm_27, lm_28, lm_29, lm_30, lm_31) := by simp only [jn_X7_groupOf_83, ↓if_pos c_1, ↓if_pos c_3, ↓if_neg c_6, ↓if_neg c_13, ↓if_neg c_14, ↓if_neg c_15, ↓if_neg c_18, ↓if_neg c_19, ↓if_neg c_20, ↓if_neg c_21]
                          rw [hf]
                          exact jq_X7_groupOf_168 l D cB cI cZ h ha0 ha1 ha2 ha3 ha5 ha20 ha25 ha27 ha28 ha29 hx hb hr hml hown hts hlocks hE hK hA  v6 v8 lm_0 lm_1 lm_2 lm_3 lm_4 lm_5 lm_6 lm_7 lm_8 lm_9 lm_10 lm_11 lm_12 lm_13 lm_14 lm_15 lm_16 lm_17 lm_18 lm_19 lm_20 lm_21 lm_22 lm_23 lm_24 lm_25 lm_26 lm_27 lm_28 lm_29 lm_30 lm_31 (trivial) _ _ hP hD hS ls (lv_sub hl [4, 6] rfl)
                        · refine lv_bipush (v := 8) hx hb dX7_groupOf_164 (by decide) ?_
                          refine lv_istore (lv' := [(8, .int 8), (0, .ref h), (2, .int v2), (4, .int v4), (5, .int v5), (6, .int v6), (7, .int v7)]) hx hb dX7_groupOf_166 hl (by decide) rfl (fun ls hl => ?_)
                          have hf : jn_X7_groupOf_83 v2 v4 v5 v6 v7 v8 (lm_0, lm_1, lm_2, lm_3, lm_4, lm_5, lm_6, lm_7, lm_8, lm_9, lm_10, lm_11, lm_12, lm_13, lm_14, lm_15, lm_16, lm_17, lm_18, lm_19, lm_20, lm_21, lm_22, lm_23, lm_24, lm_25, lm_26, lm_27, lm_28, lm_29, lm_30, lm_31) = jn_X7_groupOf_168 v6 8 (lm_0, lm_1, lm_2, lm_3, lm_4, lm_5, lm_6, lm_7, lm_8, lm_9, lm_10, lm_11, lm_12, lm_13, lm_14, lm_15, lm_16, lm_17, lm_18, lm_19, lm_20, lm_21, lm_22, lm_23, lm_24, lm_25, lm_26, lm_27, lm_28, lm_29, lm_30, lm_31) := by simp only [jn_X7_groupOf_83, ↓if_pos c_1, ↓if_pos c_3, ↓if_neg c_6, ↓if_neg c_13, ↓if_neg c_14, ↓if_neg c_15, ↓if_neg c_18, ↓if_neg c_19, ↓if_neg c_20, ↓if_pos c_21]
                          rw [hf]
                          exact jq_X7_groupOf_168 l D cB cI cZ h ha0 ha1 ha2 ha3 ha5 ha20 ha25 ha27 ha28 ha29 hx hb hr hml hown hts hlocks hE hK hA  v6 8 lm_0 lm_1 lm_2 lm_3 lm_4 lm_5 lm_6 lm_7 lm_8 lm_9 lm_10 lm_11 lm_12 lm_13 lm_14 lm_15 lm_16 lm_17 lm_18 lm_19 lm_20 lm_21 lm_22 lm_23 lm_24 lm_25 lm_26 lm_27 lm_28 lm_29 lm_30 lm_31 (trivial) _ _ hP hD hS ls (lv_sub hl [5, 0] rfl)
            · refine lv_bipush (v := 7) hx hb dX7_groupOf_120 (by decide) ?_
              refine lv_istore (lv' := [(8, .int 7), (0, .ref h), (2, .int v2), (4, .int v4), (5, .int v5), (6, .int v6), (7, .int v7)]) hx hb dX7_groupOf_122 hl (by decide) rfl (fun ls hl => ?_)
              refine lv_goto (tgt := 168) hx hb dX7_groupOf_124 (by decide) ?_
              have hf : jn_X7_groupOf_83 v2 v4 v5 v6 v7 v8 (lm_0, lm_1, lm_2, lm_3, lm_4, lm_5, lm_6, lm_7, lm_8, lm_9, lm_10, lm_11, lm_12, lm_13, lm_14, lm_15, lm_16, lm_17, lm_18, lm_19, lm_20, lm_21, lm_22, lm_23, lm_24, lm_25, lm_26, lm_27, lm_28, lm_29, lm_30, lm_31) = jn_X7_groupOf_168 v6 7 (lm_0, lm_1, lm_2, lm_3, lm_4, lm_5, lm_6, lm_7, lm_8, lm_9, lm_10, lm_11, lm_12, lm_13, lm_14, lm_15, lm_16, lm_17, lm_18, lm_19, lm_20, lm_21, lm_22, lm_23, lm_24, lm_25, lm_26, lm_27, lm_28, lm_29, lm_30, lm_31) := by simp only [jn_X7_groupOf_83, ↓if_pos c_1, ↓if_pos c_3, ↓if_neg c_6, ↓if_neg c_13, ↓if_neg c_14, ↓if_pos c_15]
              rw [hf]
              exact jq_X7_groupOf_168 l D cB cI cZ h ha0 ha1 ha2 ha3 ha5 ha20 ha25 ha27 ha28 ha29 hx hb hr hml hown hts hlocks hE hK hA  v6 7 lm_0 lm_1 lm_2 lm_3 lm_4 lm_5 lm_6 lm_7 lm_8 lm_9 lm_10 lm_11 lm_12 lm_13 lm_14 lm_15 lm_16 lm_17 lm_18 lm_19 lm_20 lm_21 lm_22 lm_23 lm_24 lm_25 lm_26 lm_27 lm_28 lm_29 lm_30 lm_31 (trivial) _ _ hP hD hS ls (lv_sub hl [5, 0] rfl)
def jn_X7_groupOf_49 (v1 : Int32) (v2 : Int32) (v3 : Int32) (v4 : Int32) (v5 : Int32) (v6 : Int32) (M : MdS) : Int32 := match M with | (lm_0, lm_1, lm_2, lm_3, lm_4, lm_5, lm_6, lm_7, lm_8, lm_9, lm_10, lm_11, lm_12, lm_13, lm_14, lm_15, lm_16, lm_17, lm_18, lm_19, lm_20, lm_21, lm_22, lm_23, lm_24, lm_25, lm_26, lm_27, lm_28, lm_29, lm_30, lm_31) => (letv ((f_X7_behind v6 6 v3)) (fun x_1 => (if v2 = 0 then (letv ((f_X7_form16 v5 x_1 lm_1)) (fun x_3 => (jn_X7_groupOf_83 v2 v4 v5 v6 x_1 x_3 (lm_0, lm_1, lm_2, lm_3, lm_4, lm_5, lm_6, lm_7, lm_8, lm_9, lm_10, lm_11, lm_12, lm_13, lm_14, lm_15, lm_16, lm_17, lm_18, lm_19, lm_20, lm_21, lm_22, lm_23, lm_24, lm_25, lm_26, lm_27, lm_28, lm_29, lm_30, lm_31)))) else (letv ((f_X7_form16 v5 x_1 lm_2)) (fun x_4 => (jn_X7_groupOf_83 v2 v4 v5 v6 x_1 x_4 (lm_0, lm_1, lm_2, lm_3, lm_4, lm_5, lm_6, lm_7, lm_8, lm_9, lm_10, lm_11, lm_12, lm_13, lm_14, lm_15, lm_16, lm_17, lm_18, lm_19, lm_20, lm_21, lm_22, lm_23, lm_24, lm_25, lm_26, lm_27, lm_28, lm_29, lm_30, lm_31)))))))
set_option maxHeartbeats 4000000 in
set_option maxRecDepth 100000 in
theorem jq_X7_groupOf_49 (l : Launch) (D : va_G) (cB cI cZ : ClassId) (h ha0 ha1 ha2 ha3 ha5 ha20 ha25 ha27 ha28 ha29 : Nat) {p : Program} {e : Env} {s : State} {m : MethodId} {args : Array Value} {below : List Frame} {meth : Method} {c : Code} {A : Nat → Prop} (hx : p.tables.exec = Jvm.exec) (hb : c.code = cX7_groupOf) (hr : meth.sig.returnType = (some .int)) (hml : c.maxLocals = 9) (hown : s.vm.findClass RX7 = some m.cls) (hts : ∀ w ∈ wsX7_groupOf, w.before args s = true) (hlocks : meth.locks = false) (hE : ev A s s.heap) (hK : va_K D vwCl (tyv cB cI cZ) s) (hA : ∀ q, s.heap.size ≤ q → A q) : ∀ (v1 : Int32) (v2 : Int32) (v3 : Int32) (v4 : Int32) (v5 : Int32) (v6 : Int32) (lm_0 : Nat → Int32) (lm_1 : Nat → Int32) (lm_2 : Nat → Int32) (lm_3 : Nat → Int32) (lm_4 : Int32) (lm_5 : Nat → Int32) (lm_6 : Int32) (lm_7 : Int32) (lm_8 : Int32) (lm_9 : Int32) (lm_10 : Int32) (lm_11 : Int32) (lm_12 : Int32) (lm_13 : Int32) (lm_14 : Int32) (lm_15 : Int32) (lm_16 : Int32) (lm_17 : Int32) (lm_18 : Int32) (lm_19 : Int32) (lm_20 : Nat → Int32) (lm_21 : Int32) (lm_22 : Int32) (lm_23 : Int32) (lm_24 : Int32) (lm_25 : Nat → Int32) (lm_26 : Int32) (lm_27 : Nat → Int32) (lm_28 : Nat → Int32) (lm_29 : Nat → Int32) (lm_30 : Int32) (lm_31 : Int32), (0 ≤ v5.toInt ∧ v5.toInt < 8) → ∀ (H : Heap) (locs : List Loc), va_P D vwCl [(h, .inr (6, [.ref ha0, .ref ha1, .ref ha2, .ref ha3, .int lm_4, .ref ha5, .int lm_6, .int lm_7, .int lm_8, .int lm_9, .int lm_10, .int lm_11, .int lm_12, .int lm_13, .int lm_14, .int lm_15, .int lm_16, .int lm_17, .int lm_18, .int lm_19, .ref ha20, .int lm_21, .int lm_22, .int lm_23, .int lm_24, .ref ha25, .int lm_26, .ref ha27, .ref ha28, .ref ha29, .int lm_30, .int lm_31])), (ha0, .inl (cI, 64, .inl lm_0)), (ha1, .inl (cI, 16, .inl lm_1)), (ha2, .inl (cI, 16, .inl lm_2)), (ha3, .inl (cB, 8000, .inl lm_3)), (ha5, .inl (cB, 400, .inl lm_5)), (ha20, .inl (cI, 100, .inl lm_20)), (ha25, .inl (cB, 300, .inl lm_25)), (ha27, .inl (cI, 40, .inl lm_27)), (ha28, .inl (cZ, 40, .inl lm_28)), (ha29, .inl (cB, 12000, .inl lm_29))] H → va_D A [(h, .inr (6, [.ref ha0, .ref ha1, .ref ha2, .ref ha3, .int lm_4, .ref ha5, .int lm_6, .int lm_7, .int lm_8, .int lm_9, .int lm_10, .int lm_11, .int lm_12, .int lm_13, .int lm_14, .int lm_15, .int lm_16, .int lm_17, .int lm_18, .int lm_19, .ref ha20, .int lm_21, .int lm_22, .int lm_23, .int lm_24, .ref ha25, .int lm_26, .ref ha27, .ref ha28, .ref ha29, .int lm_30, .int lm_31])), (ha0, .inl (cI, 64, .inl lm_0)), (ha1, .inl (cI, 16, .inl lm_1)), (ha2, .inl (cI, 16, .inl lm_2)), (ha3, .inl (cB, 8000, .inl lm_3)), (ha5, .inl (cB, 400, .inl lm_5)), (ha20, .inl (cI, 100, .inl lm_20)), (ha25, .inl (cB, 300, .inl lm_25)), (ha27, .inl (cI, 40, .inl lm_27)), (ha28, .inl (cZ, 40, .inl lm_28)), (ha29, .inl (cB, 12000, .inl lm_29))] → va_S A s.heap H locs → ∀ (ls : Array Slot), lv_has ls 9 [(0, .ref h), (1, .int v1), (2, .int v2), (3, .int v3), (4, .int v4), (5, .int v5), (6, .int v6)] → W p l e rmX7_groupOf s m args below meth c H locs 0 0 (MQ below (kQi D (tyv cB cI cZ) A (jn_X7_groupOf_49 v1 v2 v3 v4 v5 v6 (lm_0, lm_1, lm_2, lm_3, lm_4, lm_5, lm_6, lm_7, lm_8, lm_9, lm_10, lm_11, lm_12, lm_13, lm_14, lm_15, lm_16, lm_17, lm_18, lm_19, lm_20, lm_21, lm_22, lm_23, lm_24, lm_25, lm_26, lm_27, lm_28, lm_29, lm_30, lm_31)) ((wMd cB cI cZ h ha0 ha1 ha2 ha3 ha5 ha20 ha25 ha27 ha28 ha29 (lm_0, lm_1, lm_2, lm_3, lm_4, lm_5, lm_6, lm_7, lm_8, lm_9, lm_10, lm_11, lm_12, lm_13, lm_14, lm_15, lm_16, lm_17, lm_18, lm_19, lm_20, lm_21, lm_22, lm_23, lm_24, lm_25, lm_26, lm_27, lm_28, lm_29, lm_30, lm_31)))) args s 0 0 A) (F0 m 49 ls []) := by
  have hiX7 : ∀ w ∈ wsX70, w ∈ wsX7_groupOf := by decide +kernel
  have k13 := hts (.fieldLink RX7 13 "CodedGroupsModel" "four" "[I") (by decide +kernel)
  have k16 := hts (.fieldLink RX7 16 "CodedGroupsModel" "signFour" "[I") (by decide +kernel)
  intro v1 v2 v3 v4 v5 v6 lm_0 lm_1 lm_2 lm_3 lm_4 lm_5 lm_6 lm_7 lm_8 lm_9 lm_10 lm_11 lm_12 lm_13 lm_14 lm_15 lm_16 lm_17 lm_18 lm_19 lm_20 lm_21 lm_22 lm_23 lm_24 lm_25 lm_26 lm_27 lm_28 lm_29 lm_30 lm_31 hm H locs hP hD hS ls hl
  refine lv_iload hx hb dX7_groupOf_49 (lv_at hl 6 rfl) ?_
  refine lv_bipush (v := 6) hx hb dX7_groupOf_51 (by decide) ?_
  refine lv_iload_n hx hb dX7_groupOf_53 rfl (lv_at hl 3 rfl) ?_
  refine kcall0 (krunS (As := [.int v6, .int 6, .int v3]) (rest := []) ⟨hx, hb, hml, hown, hts⟩ (c_X7_behind l D cB cI cZ v6 6 v3) (va_cwS 3 hts gX7_groupOf_X7_behind rfl rfl rfl (by decide +kernel) ⟨Nat.le_of_ble_eq_true rfl, Nat.le_of_ble_eq_true rfl⟩) hE hK hP hD hS hA [] rfl (by decide) rfl hl.1 rfl (Nat.le_of_ble_eq_true rfl) dX7_groupOf_54 ⟨Nat.zero_le _, Nat.zero_le _⟩) hP hS hA (fun H locs hP hS => ?_)
  refine lv_topi (fun x_1 ex_1 => ?_)
  refine lv_istore (lv' := [(7, .int x_1), (0, .ref h), (1, .int v1), (2, .int v2), (3, .int v3), (4, .int v4), (5, .int v5), (6, .int v6)]) hx hb dX7_groupOf_57 hl (by decide) rfl (fun ls hl => ?_)
  refine lv_iload_n hx hb dX7_groupOf_59 rfl (lv_at hl 3 rfl) ?_
  refine lv_if_eq (tgt := 70) hx hb dX7_groupOf_60 (by decide) (fun c_2 => ?_) (fun c_2 => ?_)
  · refine lv_aload_n hx hb dX7_groupOf_70 rfl (lv_at hl 1 rfl) ?_
    refine va_get (D := D) (ci := 6) (v := .ref ha1) (C := RX7) (T := TX7) (N := 32) hx hb hts hiX7 hown hK hP 0 rfl rfl 1 (by decide) k13 (fun _ h9 => h9) rfl dX7_groupOf_71 ?_
    refine lv_iload hx hb dX7_groupOf_74 (lv_at hl 6 rfl) ?_
    refine lv_iload hx hb dX7_groupOf_76 (lv_at hl 0 rfl) ?_
    refine kcalli (wr := [(h, .inr (6, [.ref ha0, .ref ha1, .ref ha2, .ref ha3, .int lm_4, .ref ha5, .int lm_6, .int lm_7, .int lm_8, .int lm_9, .int lm_10, .int lm_11, .int lm_12, .int lm_13, .int lm_14, .int lm_15, .int lm_16, .int lm_17, .int lm_18, .int lm_19, .ref ha20, .int lm_21, .int lm_22, .int lm_23, .int lm_24, .ref ha25, .int lm_26, .ref ha27, .ref ha28, .ref ha29, .int lm_30, .int lm_31])), (ha0, .inl (cI, 64, .inl lm_0)), (ha2, .inl (cI, 16, .inl lm_2)), (ha3, .inl (cB, 8000, .inl lm_3)), (ha5, .inl (cB, 400, .inl lm_5)), (ha20, .inl (cI, 100, .inl lm_20)), (ha25, .inl (cB, 300, .inl lm_25)), (ha27, .inl (cI, 40, .inl lm_27)), (ha28, .inl (cZ, 40, .inl lm_28)), (ha29, .inl (cB, 12000, .inl lm_29))]) (ws' := [(h, .inr (6, [.ref ha0, .ref ha1, .ref ha2, .ref ha3, .int lm_4, .ref ha5, .int lm_6, .int lm_7, .int lm_8, .int lm_9, .int lm_10, .int lm_11, .int lm_12, .int lm_13, .int lm_14, .int lm_15, .int lm_16, .int lm_17, .int lm_18, .int lm_19, .ref ha20, .int lm_21, .int lm_22, .int lm_23, .int lm_24, .ref ha25, .int lm_26, .ref ha27, .ref ha28, .ref ha29, .int lm_30, .int lm_31])), (ha0, .inl (cI, 64, .inl lm_0)), (ha1, .inl (cI, 16, .inl lm_1)), (ha2, .inl (cI, 16, .inl lm_2)), (ha3, .inl (cB, 8000, .inl lm_3)), (ha5, .inl (cB, 400, .inl lm_5)), (ha20, .inl (cI, 100, .inl lm_20)), (ha25, .inl (cB, 300, .inl lm_25)), (ha27, .inl (cI, 40, .inl lm_27)), (ha28, .inl (cZ, 40, .inl lm_28)), (ha29, .inl (cB, 12000, .inl lm_29))]) (krunS (As := [.ref ha1, .int v5, .int x_1]) (rest := []) ⟨hx, hb, hml, hown, hts⟩ (c_X7_form16 l D cB cI cZ ha1 lm_1 v5 x_1 hm) (va_cwS 3 hts gX7_groupOf_X7_form rfl rfl rfl (by decide +kernel) ⟨Nat.le_of_ble_eq_true rfl, Nat.le_of_ble_eq_true rfl⟩) hE hK hP hD hS hA [2] rfl (by decide) rfl hl.1 rfl (Nat.le_of_ble_eq_true rfl) dX7_groupOf_78 ⟨Nat.zero_le _, Nat.zero_le _⟩) hP hD hS hA [2] [0, 1, 3, 4, 5, 6, 7, 8, 9, 10] [0, 1, 10, 2, 3, 4, 5, 6, 7, 8, 9] rfl rfl (by decide) (by decide) rfl (by decide) (fun H locs hP hD hS => ?_)
    refine lv_topi (fun x_3 ex_3 => ?_)
    refine lv_istore (lv' := [(8, .int x_3), (7, .int x_1), (0, .ref h), (1, .int v1), (2, .int v2), (3, .int v3), (4, .int v4), (5, .int v5), (6, .int v6)]) hx hb dX7_groupOf_81 hl (by decide) rfl (fun ls hl => ?_)
    have hf : jn_X7_groupOf_49 v1 v2 v3 v4 v5 v6 (lm_0, lm_1, lm_2, lm_3, lm_4, lm_5, lm_6, lm_7, lm_8, lm_9, lm_10, lm_11, lm_12, lm_13, lm_14, lm_15, lm_16, lm_17, lm_18, lm_19, lm_20, lm_21, lm_22, lm_23, lm_24, lm_25, lm_26, lm_27, lm_28, lm_29, lm_30, lm_31) = jn_X7_groupOf_83 v2 v4 v5 v6 x_1 x_3 (lm_0, lm_1, lm_2, lm_3, lm_4, lm_5, lm_6, lm_7, lm_8, lm_9, lm_10, lm_11, lm_12, lm_13, lm_14, lm_15, lm_16, lm_17, lm_18, lm_19, lm_20, lm_21, lm_22, lm_23, lm_24, lm_25, lm_26, lm_27, lm_28, lm_29, lm_30, lm_31) := by simp only [jn_X7_groupOf_49, ↓letv_eq ex_1, ↓letv_eq ex_3, ↓if_pos c_2]
    rw [hf]
    exact jq_X7_groupOf_83 l D cB cI cZ h ha0 ha1 ha2 ha3 ha5 ha20 ha25 ha27 ha28 ha29 hx hb hr hml hown hts hlocks hE hK hA  v2 v4 v5 v6 x_1 x_3 lm_0 lm_1 lm_2 lm_3 lm_4 lm_5 lm_6 lm_7 lm_8 lm_9 lm_10 lm_11 lm_12 lm_13 lm_14 lm_15 lm_16 lm_17 lm_18 lm_19 lm_20 lm_21 lm_22 lm_23 lm_24 lm_25 lm_26 lm_27 lm_28 lm_29 lm_30 lm_31 (trivial) _ _ hP hD hS ls (lv_sub hl [2, 4, 6, 7, 8, 1, 0] rfl)
  · refine lv_aload_n hx hb dX7_groupOf_63 rfl (lv_at hl 1 rfl) ?_
    refine va_get (D := D) (ci := 6) (v := .ref ha2) (C := RX7) (T := TX7) (N := 32) hx hb hts hiX7 hown hK hP 0 rfl rfl 2 (by decide) k16 (fun _ h9 => h9) rfl dX7_groupOf_64 ?_
    refine lv_goto (tgt := 74) hx hb dX7_groupOf_67 (by decide) ?_
    refine lv_iload hx hb dX7_groupOf_74 (lv_at hl 6 rfl) ?_
    refine lv_iload hx hb dX7_groupOf_76 (lv_at hl 0 rfl) ?_
    refine kcalli (wr := [(h, .inr (6, [.ref ha0, .ref ha1, .ref ha2, .ref ha3, .int lm_4, .ref ha5, .int lm_6, .int lm_7, .int lm_8, .int lm_9, .int lm_10, .int lm_11, .int lm_12, .int lm_13, .int lm_14, .int lm_15, .int lm_16, .int lm_17, .int lm_18, .int lm_19, .ref ha20, .int lm_21, .int lm_22, .int lm_23, .int lm_24, .ref ha25, .int lm_26, .ref ha27, .ref ha28, .ref ha29, .int lm_30, .int lm_31])), (ha0, .inl (cI, 64, .inl lm_0)), (ha1, .inl (cI, 16, .inl lm_1)), (ha3, .inl (cB, 8000, .inl lm_3)), (ha5, .inl (cB, 400, .inl lm_5)), (ha20, .inl (cI, 100, .inl lm_20)), (ha25, .inl (cB, 300, .inl lm_25)), (ha27, .inl (cI, 40, .inl lm_27)), (ha28, .inl (cZ, 40, .inl lm_28)), (ha29, .inl (cB, 12000, .inl lm_29))]) (ws' := [(h, .inr (6, [.ref ha0, .ref ha1, .ref ha2, .ref ha3, .int lm_4, .ref ha5, .int lm_6, .int lm_7, .int lm_8, .int lm_9, .int lm_10, .int lm_11, .int lm_12, .int lm_13, .int lm_14, .int lm_15, .int lm_16, .int lm_17, .int lm_18, .int lm_19, .ref ha20, .int lm_21, .int lm_22, .int lm_23, .int lm_24, .ref ha25, .int lm_26, .ref ha27, .ref ha28, .ref ha29, .int lm_30, .int lm_31])), (ha0, .inl (cI, 64, .inl lm_0)), (ha1, .inl (cI, 16, .inl lm_1)), (ha2, .inl (cI, 16, .inl lm_2)), (ha3, .inl (cB, 8000, .inl lm_3)), (ha5, .inl (cB, 400, .inl lm_5)), (ha20, .inl (cI, 100, .inl lm_20)), (ha25, .inl (cB, 300, .inl lm_25)), (ha27, .inl (cI, 40, .inl lm_27)), (ha28, .inl (cZ, 40, .inl lm_28)), (ha29, .inl (cB, 12000, .inl lm_29))]) (krunS (As := [.ref ha2, .int v5, .int x_1]) (rest := []) ⟨hx, hb, hml, hown, hts⟩ (c_X7_form16 l D cB cI cZ ha2 lm_2 v5 x_1 hm) (va_cwS 3 hts gX7_groupOf_X7_form rfl rfl rfl (by decide +kernel) ⟨Nat.le_of_ble_eq_true rfl, Nat.le_of_ble_eq_true rfl⟩) hE hK hP hD hS hA [3] rfl (by decide) rfl hl.1 rfl (Nat.le_of_ble_eq_true rfl) dX7_groupOf_78 ⟨Nat.zero_le _, Nat.zero_le _⟩) hP hD hS hA [3] [0, 1, 2, 4, 5, 6, 7, 8, 9, 10] [0, 1, 2, 10, 3, 4, 5, 6, 7, 8, 9] rfl rfl (by decide) (by decide) rfl (by decide) (fun H locs hP hD hS => ?_)
    refine lv_topi (fun x_4 ex_4 => ?_)
    refine lv_istore (lv' := [(8, .int x_4), (7, .int x_1), (0, .ref h), (1, .int v1), (2, .int v2), (3, .int v3), (4, .int v4), (5, .int v5), (6, .int v6)]) hx hb dX7_groupOf_81 hl (by decide) rfl (fun ls hl => ?_)
    have hf : jn_X7_groupOf_49 v1 v2 v3 v4 v5 v6 (lm_0, lm_1, lm_2, lm_3, lm_4, lm_5, lm_6, lm_7, lm_8, lm_9, lm_10, lm_11, lm_12, lm_13, lm_14, lm_15, lm_16, lm_17, lm_18, lm_19, lm_20, lm_21, lm_22, lm_23, lm_24, lm_25, lm_26, lm_27, lm_28, lm_29, lm_30, lm_31) = jn_X7_groupOf_83 v2 v4 v5 v6 x_1 x_4 (lm_0, lm_1, lm_2, lm_3, lm_4, lm_5, lm_6, lm_7, lm_8, lm_9, lm_10, lm_11, lm_12, lm_13, lm_14, lm_15, lm_16, lm_17, lm_18, lm_19, lm_20, lm_21, lm_22, lm_23, lm_24, lm_25, lm_26, lm_27, lm_28, lm_29, lm_30, lm_31) := by simp only [jn_X7_groupOf_49, ↓letv_eq ex_1, ↓letv_eq ex_4, ↓if_neg c_2]
    rw [hf]
    exact jq_X7_groupOf_83 l D cB cI cZ h ha0 ha1 ha2 ha3 ha5 ha20 ha25 ha27 ha28 ha29 hx hb hr hml hown hts hlocks hE hK hA  v2 v4 v5 v6 x_1 x_4 lm_0 lm_1 lm_2 lm_3 lm_4 lm_5 lm_6 lm_7 lm_8 lm_9 lm_10 lm_11 lm_12 lm_13 lm_14 lm_15 lm_16 lm_17 lm_18 lm_19 lm_20 lm_21 lm_22 lm_23 lm_24 lm_25 lm_26 lm_27 lm_28 lm_29 lm_30 lm_31 (trivial) _ _ hP hD hS ls (lv_sub hl [2, 4, 6, 7, 8, 1, 0] rfl)
def f_X7_groupOf (v : Int32) (sg : Int32) (d : Int32) (M : MdS) : Int32 := match M with | (m_0, m_1, m_2, m_3, m_4, m_5, m_6, m_7, m_8, m_9, m_10, m_11, m_12, m_13, m_14, m_15, m_16, m_17, m_18, m_19, m_20, m_21, m_22, m_23, m_24, m_25, m_26, m_27, m_28, m_29, m_30, m_31) => (letv ((v - v / 32 * 32)) (fun x_1 => (letv ((v / 32)) (fun x_2 => (if sg = 0 then (letv ((f_X7_form64 x_1 d m_0)) (fun x_4 => (jn_X7_groupOf_49 v sg d x_1 x_2 x_4 (m_0, m_1, m_2, m_3, m_4, m_5, m_6, m_7, m_8, m_9, m_10, m_11, m_12, m_13, m_14, m_15, m_16, m_17, m_18, m_19, m_20, m_21, m_22, m_23, m_24, m_25, m_26, m_27, m_28, m_29, m_30, m_31)))) else (if x_1 = 28 then (if (0 : Int32) ≤ d then (jn_X7_groupOf_49 v sg d x_1 x_2 48 (m_0, m_1, m_2, m_3, m_4, m_5, m_6, m_7, m_8, m_9, m_10, m_11, m_12, m_13, m_14, m_15, m_16, m_17, m_18, m_19, m_20, m_21, m_22, m_23, m_24, m_25, m_26, m_27, m_28, m_29, m_30, m_31)) else (jn_X7_groupOf_49 v sg d x_1 x_2 15 (m_0, m_1, m_2, m_3, m_4, m_5, m_6, m_7, m_8, m_9, m_10, m_11, m_12, m_13, m_14, m_15, m_16, m_17, m_18, m_19, m_20, m_21, m_22, m_23, m_24, m_25, m_26, m_27, m_28, m_29, m_30, m_31))) else (letv ((f_X7_form64 x_1 d m_0)) (fun x_6 => (jn_X7_groupOf_49 v sg d x_1 x_2 x_6 (m_0, m_1, m_2, m_3, m_4, m_5, m_6, m_7, m_8, m_9, m_10, m_11, m_12, m_13, m_14, m_15, m_16, m_17, m_18, m_19, m_20, m_21, m_22, m_23, m_24, m_25, m_26, m_27, m_28, m_29, m_30, m_31))))))))))
set_option maxHeartbeats 4000000 in
set_option maxRecDepth 100000 in
theorem c_X7_groupOf (l : Launch) (D : va_G) (cB cI cZ : ClassId) (h ha0 ha1 ha2 ha3 ha5 ha20 ha25 ha27 ha28 ha29 : Nat) (M : MdS) (v : Int32) (sg : Int32) (d : Int32) (hv : 0 ≤ v.toInt ∧ v.toInt ≤ 255) : CtI l yX7_groupOf wsX7_groupOf rmX7_groupOf D (tyv cB cI cZ) [.ref h, .int v, .int sg, .int d] (f_X7_groupOf v sg d M) (wMd cB cI cZ h ha0 ha1 ha2 ha3 ha5 ha20 ha25 ha27 ha28 ha29 M) (wMd cB cI cZ h ha0 ha1 ha2 ha3 ha5 ha20 ha25 ha27 ha28 ha29 M) := by
  obtain ⟨m_0, m_1, m_2, m_3, m_4, m_5, m_6, m_7, m_8, m_9, m_10, m_11, m_12, m_13, m_14, m_15, m_16, m_17, m_18, m_19, m_20, m_21, m_22, m_23, m_24, m_25, m_26, m_27, m_28, m_29, m_30, m_31⟩ := M
  refine CtI.of (cc := cX7_groupOf) (maxL := 9) (ret := (some .int)) (by decide +kernel) rfl (Nat.le_of_ble_eq_true rfl) ?_
  intro p e s m below meth c A ls hx hb hr hml hown hts hlocks hE hP hK hD hA hS hl
  have hown : s.vm.findClass RX7 = some m.cls := hown
  have hl : lv_has ls 9 [(0, .ref h), (1, .int v), (2, .int sg), (3, .int d)] := hl
  have hP : va_P D vwCl [(h, .inr (6, [.ref ha0, .ref ha1, .ref ha2, .ref ha3, .int m_4, .ref ha5, .int m_6, .int m_7, .int m_8, .int m_9, .int m_10, .int m_11, .int m_12, .int m_13, .int m_14, .int m_15, .int m_16, .int m_17, .int m_18, .int m_19, .ref ha20, .int m_21, .int m_22, .int m_23, .int m_24, .ref ha25, .int m_26, .ref ha27, .ref ha28, .ref ha29, .int m_30, .int m_31])), (ha0, .inl (cI, 64, .inl m_0)), (ha1, .inl (cI, 16, .inl m_1)), (ha2, .inl (cI, 16, .inl m_2)), (ha3, .inl (cB, 8000, .inl m_3)), (ha5, .inl (cB, 400, .inl m_5)), (ha20, .inl (cI, 100, .inl m_20)), (ha25, .inl (cB, 300, .inl m_25)), (ha27, .inl (cI, 40, .inl m_27)), (ha28, .inl (cZ, 40, .inl m_28)), (ha29, .inl (cB, 12000, .inl m_29))] s.heap := hP
  have hD : va_D A [(h, .inr (6, [.ref ha0, .ref ha1, .ref ha2, .ref ha3, .int m_4, .ref ha5, .int m_6, .int m_7, .int m_8, .int m_9, .int m_10, .int m_11, .int m_12, .int m_13, .int m_14, .int m_15, .int m_16, .int m_17, .int m_18, .int m_19, .ref ha20, .int m_21, .int m_22, .int m_23, .int m_24, .ref ha25, .int m_26, .ref ha27, .ref ha28, .ref ha29, .int m_30, .int m_31])), (ha0, .inl (cI, 64, .inl m_0)), (ha1, .inl (cI, 16, .inl m_1)), (ha2, .inl (cI, 16, .inl m_2)), (ha3, .inl (cB, 8000, .inl m_3)), (ha5, .inl (cB, 400, .inl m_5)), (ha20, .inl (cI, 100, .inl m_20)), (ha25, .inl (cB, 300, .inl m_25)), (ha27, .inl (cI, 40, .inl m_27)), (ha28, .inl (cZ, 40, .inl m_28)), (ha29, .inl (cB, 12000, .inl m_29))] := hD
  have hiX7 : ∀ w ∈ wsX70, w ∈ wsX7_groupOf := by decide +kernel
  have k7 := hts (.fieldLink RX7 7 "CodedGroupsModel" "six" "[I") (by decide +kernel)
  refine lv_iload_n hx hb dX7_groupOf_0 rfl (lv_at hl 1 rfl) ?_
  refine lv_bipush (v := 32) hx hb dX7_groupOf_1 (by decide) ?_
  refine lv_irem hx hb dX7_groupOf_3 (by decide) ?_
  refine lv_topi (fun x_1 ex_1 => ?_)
  refine lv_istore (lv' := [(4, .int x_1), (0, .ref h), (1, .int v), (2, .int sg), (3, .int d)]) hx hb dX7_groupOf_4 hl (by decide) rfl (fun ls hl => ?_)
  refine lv_iload_n hx hb dX7_groupOf_6 rfl (lv_at hl 2 rfl) ?_
  refine lv_bipush (v := 32) hx hb dX7_groupOf_7 (by decide) ?_
  refine lv_idiv hx hb dX7_groupOf_9 (by decide) ?_
  refine lv_topi (fun x_2 ex_2 => ?_)
  refine lv_istore (lv' := [(5, .int x_2), (4, .int x_1), (0, .ref h), (1, .int v), (2, .int sg), (3, .int d)]) hx hb dX7_groupOf_10 hl (by decide) rfl (fun ls hl => ?_)
  refine lv_iload_n hx hb dX7_groupOf_12 rfl (lv_at hl 4 rfl) ?_
  refine lv_if_eq (tgt := 37) hx hb dX7_groupOf_13 (by decide) (fun c_3 => ?_) (fun c_3 => ?_)
  · refine lv_aload_n hx hb dX7_groupOf_37 rfl (lv_at hl 2 rfl) ?_
    refine va_get (D := D) (ci := 6) (v := .ref ha0) (C := RX7) (T := TX7) (N := 32) hx hb hts hiX7 hown hK hP 0 rfl rfl 0 (by decide) k7 (fun _ h9 => h9) rfl dX7_groupOf_38 ?_
    refine lv_iload hx hb dX7_groupOf_41 (lv_at hl 1 rfl) ?_
    refine lv_iload_n hx hb dX7_groupOf_43 rfl (lv_at hl 5 rfl) ?_
    refine kcalli (wr := [(h, .inr (6, [.ref ha0, .ref ha1, .ref ha2, .ref ha3, .int m_4, .ref ha5, .int m_6, .int m_7, .int m_8, .int m_9, .int m_10, .int m_11, .int m_12, .int m_13, .int m_14, .int m_15, .int m_16, .int m_17, .int m_18, .int m_19, .ref ha20, .int m_21, .int m_22, .int m_23, .int m_24, .ref ha25, .int m_26, .ref ha27, .ref ha28, .ref ha29, .int m_30, .int m_31])), (ha1, .inl (cI, 16, .inl m_1)), (ha2, .inl (cI, 16, .inl m_2)), (ha3, .inl (cB, 8000, .inl m_3)), (ha5, .inl (cB, 400, .inl m_5)), (ha20, .inl (cI, 100, .inl m_20)), (ha25, .inl (cB, 300, .inl m_25)), (ha27, .inl (cI, 40, .inl m_27)), (ha28, .inl (cZ, 40, .inl m_28)), (ha29, .inl (cB, 12000, .inl m_29))]) (ws' := [(h, .inr (6, [.ref ha0, .ref ha1, .ref ha2, .ref ha3, .int m_4, .ref ha5, .int m_6, .int m_7, .int m_8, .int m_9, .int m_10, .int m_11, .int m_12, .int m_13, .int m_14, .int m_15, .int m_16, .int m_17, .int m_18, .int m_19, .ref ha20, .int m_21, .int m_22, .int m_23, .int m_24, .ref ha25, .int m_26, .ref ha27, .ref ha28, .ref ha29, .int m_30, .int m_31])), (ha0, .inl (cI, 64, .inl m_0)), (ha1, .inl (cI, 16, .inl m_1)), (ha2, .inl (cI, 16, .inl m_2)), (ha3, .inl (cB, 8000, .inl m_3)), (ha5, .inl (cB, 400, .inl m_5)), (ha20, .inl (cI, 100, .inl m_20)), (ha25, .inl (cB, 300, .inl m_25)), (ha27, .inl (cI, 40, .inl m_27)), (ha28, .inl (cZ, 40, .inl m_28)), (ha29, .inl (cB, 12000, .inl m_29))]) (krunS (As := [.ref ha0, .int x_1, .int d]) (rest := []) ⟨hx, hb, hml, hown, hts⟩ (c_X7_form64 l D cB cI cZ ha0 m_0 x_1 d (by have q := r32 hv ex_1; omega)) (va_cwS 3 hts gX7_groupOf_X7_form rfl rfl rfl (by decide +kernel) ⟨Nat.le_of_ble_eq_true rfl, Nat.le_of_ble_eq_true rfl⟩) hE hK hP hD hS hA [1] rfl (by decide) rfl hl.1 rfl (Nat.le_of_ble_eq_true rfl) dX7_groupOf_44 ⟨Nat.zero_le _, Nat.zero_le _⟩) hP hD hS hA [1] [0, 2, 3, 4, 5, 6, 7, 8, 9, 10] [0, 10, 1, 2, 3, 4, 5, 6, 7, 8, 9] rfl rfl (by decide) (by decide) rfl (by decide) (fun H locs hP hD hS => ?_)
    refine lv_topi (fun x_4 ex_4 => ?_)
    refine lv_istore (lv' := [(6, .int x_4), (5, .int x_2), (4, .int x_1), (0, .ref h), (1, .int v), (2, .int sg), (3, .int d)]) hx hb dX7_groupOf_47 hl (by decide) rfl (fun ls hl => ?_)
    have hf : f_X7_groupOf v sg d (m_0, m_1, m_2, m_3, m_4, m_5, m_6, m_7, m_8, m_9, m_10, m_11, m_12, m_13, m_14, m_15, m_16, m_17, m_18, m_19, m_20, m_21, m_22, m_23, m_24, m_25, m_26, m_27, m_28, m_29, m_30, m_31) = jn_X7_groupOf_49 v sg d x_1 x_2 x_4 (m_0, m_1, m_2, m_3, m_4, m_5, m_6, m_7, m_8, m_9, m_10, m_11, m_12, m_13, m_14, m_15, m_16, m_17, m_18, m_19, m_20, m_21, m_22, m_23, m_24, m_25, m_26, m_27, m_28, m_29, m_30, m_31) := by simp only [f_X7_groupOf, ↓letv_eq ex_1, ↓letv_eq ex_2, ↓letv_eq ex_4, ↓if_pos c_3]
    rw [hf]
    exact jq_X7_groupOf_49 l D cB cI cZ h ha0 ha1 ha2 ha3 ha5 ha20 ha25 ha27 ha28 ha29 hx hb hr hml hown hts hlocks hE hK hA  v sg d x_1 x_2 x_4 m_0 m_1 m_2 m_3 m_4 m_5 m_6 m_7 m_8 m_9 m_10 m_11 m_12 m_13 m_14 m_15 m_16 m_17 m_18 m_19 m_20 m_21 m_22 m_23 m_24 m_25 m_26 m_27 m_28 m_29 m_30 m_31 (by have q := d32 hv ex_2; omega) _ _ hP hD hS ls (lv_sub hl [3, 4, 5, 6, 2, 1, 0] rfl)
  · refine lv_iload hx hb dX7_groupOf_16 (lv_at hl 1 rfl) ?_
    refine lv_bipush (v := 28) hx hb dX7_groupOf_18 (by decide) ?_
    refine lv_icmp_ne (tgt := 37) hx hb dX7_groupOf_20 (by decide) (fun c_5 => ?_) (fun c_5 => ?_)
    · refine lv_aload_n hx hb dX7_groupOf_37 rfl (lv_at hl 2 rfl) ?_
      refine va_get (D := D) (ci := 6) (v := .ref ha0) (C := RX7) (T := TX7) (N := 32) hx hb hts hiX7 hown hK hP 0 rfl rfl 0 (by decide) k7 (fun _ h9 => h9) rfl dX7_groupOf_38 ?_
      refine lv_iload hx hb dX7_groupOf_41 (lv_at hl 1 rfl) ?_
      refine lv_iload_n hx hb dX7_groupOf_43 rfl (lv_at hl 5 rfl) ?_
      refine kcalli (wr := [(h, .inr (6, [.ref ha0, .ref ha1, .ref ha2, .ref ha3, .int m_4, .ref ha5, .int m_6, .int m_7, .int m_8, .int m_9, .int m_10, .int m_11, .int m_12, .int m_13, .int m_14, .int m_15, .int m_16, .int m_17, .int m_18, .int m_19, .ref ha20, .int m_21, .int m_22, .int m_23, .int m_24, .ref ha25, .int m_26, .ref ha27, .ref ha28, .ref ha29, .int m_30, .int m_31])), (ha1, .inl (cI, 16, .inl m_1)), (ha2, .inl (cI, 16, .inl m_2)), (ha3, .inl (cB, 8000, .inl m_3)), (ha5, .inl (cB, 400, .inl m_5)), (ha20, .inl (cI, 100, .inl m_20)), (ha25, .inl (cB, 300, .inl m_25)), (ha27, .inl (cI, 40, .inl m_27)), (ha28, .inl (cZ, 40, .inl m_28)), (ha29, .inl (cB, 12000, .inl m_29))]) (ws' := [(h, .inr (6, [.ref ha0, .ref ha1, .ref ha2, .ref ha3, .int m_4, .ref ha5, .int m_6, .int m_7, .int m_8, .int m_9, .int m_10, .int m_11, .int m_12, .int m_13, .int m_14, .int m_15, .int m_16, .int m_17, .int m_18, .int m_19, .ref ha20, .int m_21, .int m_22, .int m_23, .int m_24, .ref ha25, .int m_26, .ref ha27, .ref ha28, .ref ha29, .int m_30, .int m_31])), (ha0, .inl (cI, 64, .inl m_0)), (ha1, .inl (cI, 16, .inl m_1)), (ha2, .inl (cI, 16, .inl m_2)), (ha3, .inl (cB, 8000, .inl m_3)), (ha5, .inl (cB, 400, .inl m_5)), (ha20, .inl (cI, 100, .inl m_20)), (ha25, .inl (cB, 300, .inl m_25)), (ha27, .inl (cI, 40, .inl m_27)), (ha28, .inl (cZ, 40, .inl m_28)), (ha29, .inl (cB, 12000, .inl m_29))]) (krunS (As := [.ref ha0, .int x_1, .int d]) (rest := []) ⟨hx, hb, hml, hown, hts⟩ (c_X7_form64 l D cB cI cZ ha0 m_0 x_1 d (by have q := r32 hv ex_1; omega)) (va_cwS 3 hts gX7_groupOf_X7_form rfl rfl rfl (by decide +kernel) ⟨Nat.le_of_ble_eq_true rfl, Nat.le_of_ble_eq_true rfl⟩) hE hK hP hD hS hA [1] rfl (by decide) rfl hl.1 rfl (Nat.le_of_ble_eq_true rfl) dX7_groupOf_44 ⟨Nat.zero_le _, Nat.zero_le _⟩) hP hD hS hA [1] [0, 2, 3, 4, 5, 6, 7, 8, 9, 10] [0, 10, 1, 2, 3, 4, 5, 6, 7, 8, 9] rfl rfl (by decide) (by decide) rfl (by decide) (fun H locs hP hD hS => ?_)
      refine lv_topi (fun x_6 ex_6 => ?_)
      refine lv_istore (lv' := [(6, .int x_6), (5, .int x_2), (4, .int x_1), (0, .ref h), (1, .int v), (2, .int sg), (3, .int d)]) hx hb dX7_groupOf_47 hl (by decide) rfl (fun ls hl => ?_)
      have hf : f_X7_groupOf v sg d (m_0, m_1, m_2, m_3, m_4, m_5, m_6, m_7, m_8, m_9, m_10, m_11, m_12, m_13, m_14, m_15, m_16, m_17, m_18, m_19, m_20, m_21, m_22, m_23, m_24, m_25, m_26, m_27, m_28, m_29, m_30, m_31) = jn_X7_groupOf_49 v sg d x_1 x_2 x_6 (m_0, m_1, m_2, m_3, m_4, m_5, m_6, m_7, m_8, m_9, m_10, m_11, m_12, m_13, m_14, m_15, m_16, m_17, m_18, m_19, m_20, m_21, m_22, m_23, m_24, m_25, m_26, m_27, m_28, m_29, m_30, m_31) := by simp only [f_X7_groupOf, ↓letv_eq ex_1, ↓letv_eq ex_2, ↓letv_eq ex_6, ↓if_neg c_3, ↓if_neg c_5]
      rw [hf]
      exact jq_X7_groupOf_49 l D cB cI cZ h ha0 ha1 ha2 ha3 ha5 ha20 ha25 ha27 ha28 ha29 hx hb hr hml hown hts hlocks hE hK hA  v sg d x_1 x_2 x_6 m_0 m_1 m_2 m_3 m_4 m_5 m_6 m_7 m_8 m_9 m_10 m_11 m_12 m_13 m_14 m_15 m_16 m_17 m_18 m_19 m_20 m_21 m_22 m_23 m_24 m_25 m_26 m_27 m_28 m_29 m_30 m_31 (by have q := d32 hv ex_2; omega) _ _ hP hD hS ls (lv_sub hl [3, 4, 5, 6, 2, 1, 0] rfl)
    · refine lv_iload_n hx hb dX7_groupOf_23 rfl (lv_at hl 5 rfl) ?_
      refine lv_if_ge (tgt := 32) hx hb dX7_groupOf_24 (by decide) (fun c_7 => ?_) (fun c_7 => ?_)
      · refine lv_bipush (v := 48) hx hb dX7_groupOf_32 (by decide) ?_
        refine lv_goto (tgt := 47) hx hb dX7_groupOf_34 (by decide) ?_
        refine lv_istore (lv' := [(6, .int 48), (5, .int x_2), (4, .int x_1), (0, .ref h), (1, .int v), (2, .int sg), (3, .int d)]) hx hb dX7_groupOf_47 hl (by decide) rfl (fun ls hl => ?_)
        have hf : f_X7_groupOf v sg d (m_0, m_1, m_2, m_3, m_4, m_5, m_6, m_7, m_8, m_9, m_10, m_11, m_12, m_13, m_14, m_15, m_16, m_17, m_18, m_19, m_20, m_21, m_22, m_23, m_24, m_25, m_26, m_27, m_28, m_29, m_30, m_31) = jn_X7_groupOf_49 v sg d x_1 x_2 48 (m_0, m_1, m_2, m_3, m_4, m_5, m_6, m_7, m_8, m_9, m_10, m_11, m_12, m_13, m_14, m_15, m_16, m_17, m_18, m_19, m_20, m_21, m_22, m_23, m_24, m_25, m_26, m_27, m_28, m_29, m_30, m_31) := by simp only [f_X7_groupOf, ↓letv_eq ex_1, ↓letv_eq ex_2, ↓if_neg c_3, ↓if_pos c_5, ↓if_pos c_7]
        rw [hf]
        exact jq_X7_groupOf_49 l D cB cI cZ h ha0 ha1 ha2 ha3 ha5 ha20 ha25 ha27 ha28 ha29 hx hb hr hml hown hts hlocks hE hK hA  v sg d x_1 x_2 48 m_0 m_1 m_2 m_3 m_4 m_5 m_6 m_7 m_8 m_9 m_10 m_11 m_12 m_13 m_14 m_15 m_16 m_17 m_18 m_19 m_20 m_21 m_22 m_23 m_24 m_25 m_26 m_27 m_28 m_29 m_30 m_31 (by have q := d32 hv ex_2; omega) _ _ hP hD hS ls (lv_sub hl [3, 4, 5, 6, 2, 1, 0] rfl)
      · refine lv_bipush (v := 15) hx hb dX7_groupOf_27 (by decide) ?_
        refine lv_goto (tgt := 47) hx hb dX7_groupOf_29 (by decide) ?_
        refine lv_istore (lv' := [(6, .int 15), (5, .int x_2), (4, .int x_1), (0, .ref h), (1, .int v), (2, .int sg), (3, .int d)]) hx hb dX7_groupOf_47 hl (by decide) rfl (fun ls hl => ?_)
        have hf : f_X7_groupOf v sg d (m_0, m_1, m_2, m_3, m_4, m_5, m_6, m_7, m_8, m_9, m_10, m_11, m_12, m_13, m_14, m_15, m_16, m_17, m_18, m_19, m_20, m_21, m_22, m_23, m_24, m_25, m_26, m_27, m_28, m_29, m_30, m_31) = jn_X7_groupOf_49 v sg d x_1 x_2 15 (m_0, m_1, m_2, m_3, m_4, m_5, m_6, m_7, m_8, m_9, m_10, m_11, m_12, m_13, m_14, m_15, m_16, m_17, m_18, m_19, m_20, m_21, m_22, m_23, m_24, m_25, m_26, m_27, m_28, m_29, m_30, m_31) := by simp only [f_X7_groupOf, ↓letv_eq ex_1, ↓letv_eq ex_2, ↓if_neg c_3, ↓if_pos c_5, ↓if_neg c_7]
        rw [hf]
        exact jq_X7_groupOf_49 l D cB cI cZ h ha0 ha1 ha2 ha3 ha5 ha20 ha25 ha27 ha28 ha29 hx hb hr hml hown hts hlocks hE hK hA  v sg d x_1 x_2 15 m_0 m_1 m_2 m_3 m_4 m_5 m_6 m_7 m_8 m_9 m_10 m_11 m_12 m_13 m_14 m_15 m_16 m_17 m_18 m_19 m_20 m_21 m_22 m_23 m_24 m_25 m_26 m_27 m_28 m_29 m_30 m_31 (by have q := d32 hv ex_2; omega) _ _ hP hD hS ls (lv_sub hl [3, 4, 5, 6, 2, 1, 0] rfl)

abbrev rmX7_decode : Room := { frames := 3, cells := 0, slots := 0, locals := 75 }
def lp_X7_decode_25 : Nat → Int32 → Int32 → Int32 → MdS → Int32
  | 0, _, _, _, _ => 0
  | n + 1, v1, v2, v3, (lm_0, lm_1, lm_2, lm_3, lm_4, lm_5, lm_6, lm_7, lm_8, lm_9, lm_10, lm_11, lm_12, lm_13, lm_14, lm_15, lm_16, lm_17, lm_18, lm_19, lm_20, lm_21, lm_22, lm_23, lm_24, lm_25, lm_26, lm_27, lm_28, lm_29, lm_30, lm_31) => (if (256 : Int32) ≤ v3 then (-1) else (if (f_X7_groupOf v3 0 v2 (lm_0, lm_1, lm_2, lm_3, lm_4, lm_5, lm_6, lm_7, lm_8, lm_9, lm_10, lm_11, lm_12, lm_13, lm_14, lm_15, lm_16, lm_17, lm_18, lm_19, lm_20, lm_21, lm_22, lm_23, lm_24, lm_25, lm_26, lm_27, lm_28, lm_29, lm_30, lm_31)) = v1 then v3 else (if (f_X7_isSign v3) = 0 then lp_X7_decode_25 n v1 v2 ((v3 + 1)) (lm_0, lm_1, lm_2, lm_3, lm_4, lm_5, lm_6, lm_7, lm_8, lm_9, lm_10, lm_11, lm_12, lm_13, lm_14, lm_15, lm_16, lm_17, lm_18, lm_19, lm_20, lm_21, lm_22, lm_23, lm_24, lm_25, lm_26, lm_27, lm_28, lm_29, lm_30, lm_31) else (if (f_X7_groupOf v3 1 v2 (lm_0, lm_1, lm_2, lm_3, lm_4, lm_5, lm_6, lm_7, lm_8, lm_9, lm_10, lm_11, lm_12, lm_13, lm_14, lm_15, lm_16, lm_17, lm_18, lm_19, lm_20, lm_21, lm_22, lm_23, lm_24, lm_25, lm_26, lm_27, lm_28, lm_29, lm_30, lm_31)) = v1 then (256 + v3) else lp_X7_decode_25 n v1 v2 ((v3 + 1)) (lm_0, lm_1, lm_2, lm_3, lm_4, lm_5, lm_6, lm_7, lm_8, lm_9, lm_10, lm_11, lm_12, lm_13, lm_14, lm_15, lm_16, lm_17, lm_18, lm_19, lm_20, lm_21, lm_22, lm_23, lm_24, lm_25, lm_26, lm_27, lm_28, lm_29, lm_30, lm_31)))))
set_option maxHeartbeats 4000000 in
set_option maxRecDepth 100000 in
theorem lq_X7_decode_25 (l : Launch) (D : va_G) (cB cI cZ : ClassId) (h ha0 ha1 ha2 ha3 ha5 ha20 ha25 ha27 ha28 ha29 : Nat) {p : Program} {e : Env} {s : State} {m : MethodId} {args : Array Value} {below : List Frame} {meth : Method} {c : Code} {A : Nat → Prop} (hx : p.tables.exec = Jvm.exec) (hb : c.code = cX7_decode) (hr : meth.sig.returnType = (some .int)) (hml : c.maxLocals = 4) (hown : s.vm.findClass RX7 = some m.cls) (hts : ∀ w ∈ wsX7_decode, w.before args s = true) (hlocks : meth.locks = false) (hE : ev A s s.heap) (hK : va_K D vwCl (tyv cB cI cZ) s) (hA : ∀ q, s.heap.size ≤ q → A q) : ∀ (n : Nat) (v1 : Int32) (v2 : Int32) (v3 : Int32) (lm_0 : Nat → Int32) (lm_1 : Nat → Int32) (lm_2 : Nat → Int32) (lm_3 : Nat → Int32) (lm_4 : Int32) (lm_5 : Nat → Int32) (lm_6 : Int32) (lm_7 : Int32) (lm_8 : Int32) (lm_9 : Int32) (lm_10 : Int32) (lm_11 : Int32) (lm_12 : Int32) (lm_13 : Int32) (lm_14 : Int32) (lm_15 : Int32) (lm_16 : Int32) (lm_17 : Int32) (lm_18 : Int32) (lm_19 : Int32) (lm_20 : Nat → Int32) (lm_21 : Int32) (lm_22 : Int32) (lm_23 : Int32) (lm_24 : Int32) (lm_25 : Nat → Int32) (lm_26 : Int32) (lm_27 : Nat → Int32) (lm_28 : Nat → Int32) (lm_29 : Nat → Int32) (lm_30 : Int32) (lm_31 : Int32), (0 ≤ v3.toInt ∧ v3.toInt ≤ 256 ∧ (256 : Int) < v3.toInt + n) → ∀ (H : Heap) (locs : List Loc), va_P D vwCl [(h, .inr (6, [.ref ha0, .ref ha1, .ref ha2, .ref ha3, .int lm_4, .ref ha5, .int lm_6, .int lm_7, .int lm_8, .int lm_9, .int lm_10, .int lm_11, .int lm_12, .int lm_13, .int lm_14, .int lm_15, .int lm_16, .int lm_17, .int lm_18, .int lm_19, .ref ha20, .int lm_21, .int lm_22, .int lm_23, .int lm_24, .ref ha25, .int lm_26, .ref ha27, .ref ha28, .ref ha29, .int lm_30, .int lm_31])), (ha0, .inl (cI, 64, .inl lm_0)), (ha1, .inl (cI, 16, .inl lm_1)), (ha2, .inl (cI, 16, .inl lm_2)), (ha3, .inl (cB, 8000, .inl lm_3)), (ha5, .inl (cB, 400, .inl lm_5)), (ha20, .inl (cI, 100, .inl lm_20)), (ha25, .inl (cB, 300, .inl lm_25)), (ha27, .inl (cI, 40, .inl lm_27)), (ha28, .inl (cZ, 40, .inl lm_28)), (ha29, .inl (cB, 12000, .inl lm_29))] H → va_D A [(h, .inr (6, [.ref ha0, .ref ha1, .ref ha2, .ref ha3, .int lm_4, .ref ha5, .int lm_6, .int lm_7, .int lm_8, .int lm_9, .int lm_10, .int lm_11, .int lm_12, .int lm_13, .int lm_14, .int lm_15, .int lm_16, .int lm_17, .int lm_18, .int lm_19, .ref ha20, .int lm_21, .int lm_22, .int lm_23, .int lm_24, .ref ha25, .int lm_26, .ref ha27, .ref ha28, .ref ha29, .int lm_30, .int lm_31])), (ha0, .inl (cI, 64, .inl lm_0)), (ha1, .inl (cI, 16, .inl lm_1)), (ha2, .inl (cI, 16, .inl lm_2)), (ha3, .inl (cB, 8000, .inl lm_3)), (ha5, .inl (cB, 400, .inl lm_5)), (ha20, .inl (cI, 100, .inl lm_20)), (ha25, .inl (cB, 300, .inl lm_25)), (ha27, .inl (cI, 40, .inl lm_27)), (ha28, .inl (cZ, 40, .inl lm_28)), (ha29, .inl (cB, 12000, .inl lm_29))] → va_S A s.heap H locs → ∀ (ls : Array Slot), lv_has ls 4 [(0, .ref h), (1, .int v1), (2, .int v2), (3, .int v3)] → W p l e rmX7_decode s m args below meth c H locs 0 0 (MQ below (kQi D (tyv cB cI cZ) A (lp_X7_decode_25 n v1 v2 v3 (lm_0, lm_1, lm_2, lm_3, lm_4, lm_5, lm_6, lm_7, lm_8, lm_9, lm_10, lm_11, lm_12, lm_13, lm_14, lm_15, lm_16, lm_17, lm_18, lm_19, lm_20, lm_21, lm_22, lm_23, lm_24, lm_25, lm_26, lm_27, lm_28, lm_29, lm_30, lm_31)) ((wMd cB cI cZ h ha0 ha1 ha2 ha3 ha5 ha20 ha25 ha27 ha28 ha29 (lm_0, lm_1, lm_2, lm_3, lm_4, lm_5, lm_6, lm_7, lm_8, lm_9, lm_10, lm_11, lm_12, lm_13, lm_14, lm_15, lm_16, lm_17, lm_18, lm_19, lm_20, lm_21, lm_22, lm_23, lm_24, lm_25, lm_26, lm_27, lm_28, lm_29, lm_30, lm_31)))) args s 0 0 A) (F0 m 25 ls []) := by
  intro n
  induction n with
  | zero => intro v1 v2 v3 lm_0 lm_1 lm_2 lm_3 lm_4 lm_5 lm_6 lm_7 lm_8 lm_9 lm_10 lm_11 lm_12 lm_13 lm_14 lm_15 lm_16 lm_17 lm_18 lm_19 lm_20 lm_21 lm_22 lm_23 lm_24 lm_25 lm_26 lm_27 lm_28 lm_29 lm_30 lm_31 hm; omega
  | succ n ih =>
    intro v1 v2 v3 lm_0 lm_1 lm_2 lm_3 lm_4 lm_5 lm_6 lm_7 lm_8 lm_9 lm_10 lm_11 lm_12 lm_13 lm_14 lm_15 lm_16 lm_17 lm_18 lm_19 lm_20 lm_21 lm_22 lm_23 lm_24 lm_25 lm_26 lm_27 lm_28 lm_29 lm_30 lm_31 hm H locs hP hD hS ls hl
    refine lv_iload_n hx hb dX7_decode_25 rfl (lv_at hl 3 rfl) ?_
    refine lv_sipush (v := 256) hx hb dX7_decode_26 (by decide) ?_
    refine lv_icmp_ge (tgt := 75) hx hb dX7_decode_29 (by decide) (fun c_1 => ?_) (fun c_1 => ?_)
    · refine lv_iconst (v := (-1)) hx hb dX7_decode_75 (by decide) ?_
      have hf : lp_X7_decode_25 (n + 1) v1 v2 v3 (lm_0, lm_1, lm_2, lm_3, lm_4, lm_5, lm_6, lm_7, lm_8, lm_9, lm_10, lm_11, lm_12, lm_13, lm_14, lm_15, lm_16, lm_17, lm_18, lm_19, lm_20, lm_21, lm_22, lm_23, lm_24, lm_25, lm_26, lm_27, lm_28, lm_29, lm_30, lm_31) = (-1) := by simp only [lp_X7_decode_25, ↓if_pos c_1]
      exact kreti hx hb hr hlocks hS hP hK hD dX7_decode_76 hf.symm rfl
    · refine lv_aload_n hx hb dX7_decode_32 rfl (lv_at hl 0 rfl) ?_
      refine lv_iload_n hx hb dX7_decode_33 rfl (lv_at hl 3 rfl) ?_
      refine lv_iconst (v := 0) hx hb dX7_decode_34 (by decide) ?_
      refine lv_iload_n hx hb dX7_decode_35 rfl (lv_at hl 2 rfl) ?_
      refine kcalli (wr := []) (ws' := [(h, .inr (6, [.ref ha0, .ref ha1, .ref ha2, .ref ha3, .int lm_4, .ref ha5, .int lm_6, .int lm_7, .int lm_8, .int lm_9, .int lm_10, .int lm_11, .int lm_12, .int lm_13, .int lm_14, .int lm_15, .int lm_16, .int lm_17, .int lm_18, .int lm_19, .ref ha20, .int lm_21, .int lm_22, .int lm_23, .int lm_24, .ref ha25, .int lm_26, .ref ha27, .ref ha28, .ref ha29, .int lm_30, .int lm_31])), (ha0, .inl (cI, 64, .inl lm_0)), (ha1, .inl (cI, 16, .inl lm_1)), (ha2, .inl (cI, 16, .inl lm_2)), (ha3, .inl (cB, 8000, .inl lm_3)), (ha5, .inl (cB, 400, .inl lm_5)), (ha20, .inl (cI, 100, .inl lm_20)), (ha25, .inl (cB, 300, .inl lm_25)), (ha27, .inl (cI, 40, .inl lm_27)), (ha28, .inl (cZ, 40, .inl lm_28)), (ha29, .inl (cB, 12000, .inl lm_29))]) (krunV (As := [.int v3, .int 0, .int v2]) (rest := []) ⟨hx, hb, hml, hown, hts⟩ (c_X7_groupOf l D cB cI cZ h ha0 ha1 ha2 ha3 ha5 ha20 ha25 ha27 ha28 ha29 (lm_0, lm_1, lm_2, lm_3, lm_4, lm_5, lm_6, lm_7, lm_8, lm_9, lm_10, lm_11, lm_12, lm_13, lm_14, lm_15, lm_16, lm_17, lm_18, lm_19, lm_20, lm_21, lm_22, lm_23, lm_24, lm_25, lm_26, lm_27, lm_28, lm_29, lm_30, lm_31) v3 0 v2 (by have e_0 := i_nle c_1; have z256 : (256 : Int32).toInt = 256 := rfl; omega)) (cwV 3 hts gX7_decode_X7_groupOf rfl rfl rfl (by decide +kernel) ⟨Nat.le_of_ble_eq_true rfl, Nat.le_of_ble_eq_true rfl⟩) hE hK hP hD hS hA [0, 1, 2, 3, 4, 5, 6, 7, 8, 9, 10] rfl (by decide) (ci := 6) (q0 := 0) rfl rfl rfl hl.1 rfl (Nat.le_of_ble_eq_true rfl) dX7_decode_36 ⟨Nat.zero_le _, Nat.zero_le _⟩) hP hD hS hA [0, 1, 2, 3, 4, 5, 6, 7, 8, 9, 10] [] [0, 1, 2, 3, 4, 5, 6, 7, 8, 9, 10] rfl rfl (by decide) (by decide) rfl (by decide) (fun H locs hP hD hS => ?_)
      refine lv_iload_n hx hb dX7_decode_39 rfl (lv_at hl 1 rfl) ?_
      refine lv_icmp_ne (tgt := 45) hx hb dX7_decode_40 (by decide) (fun c_2 => ?_) (fun c_2 => ?_)
      · refine lv_iload_n hx hb dX7_decode_45 rfl (lv_at hl 3 rfl) ?_
        refine kcall0 (krunS (As := [.int v3]) (rest := []) ⟨hx, hb, hml, hown, hts⟩ (c_X7_isSign l D cB cI cZ v3) (va_cwS 1 hts gX7_decode_X7_isSign rfl rfl rfl (by decide +kernel) ⟨Nat.le_of_ble_eq_true rfl, Nat.le_of_ble_eq_true rfl⟩) hE hK hP hD hS hA [] rfl (by decide) rfl hl.1 rfl (Nat.le_of_ble_eq_true rfl) dX7_decode_46 ⟨Nat.zero_le _, Nat.zero_le _⟩) hP hS hA (fun H locs hP hS => ?_)
        refine lv_if_eq (tgt := 69) hx hb dX7_decode_49 (by decide) (fun c_3 => ?_) (fun c_3 => ?_)
        · refine lv_iinc (v := (v3 + 1)) (lv' := [(3, .int (v3 + 1)), (0, .ref h), (1, .int v1), (2, .int v2)]) hx hb dX7_decode_69 hl (k := 3) rfl rfl (by decide) rfl (fun ls hl => ?_)
          refine lv_goto (tgt := 25) hx hb dX7_decode_72 (by decide) ?_
          have hf : lp_X7_decode_25 (n + 1) v1 v2 v3 (lm_0, lm_1, lm_2, lm_3, lm_4, lm_5, lm_6, lm_7, lm_8, lm_9, lm_10, lm_11, lm_12, lm_13, lm_14, lm_15, lm_16, lm_17, lm_18, lm_19, lm_20, lm_21, lm_22, lm_23, lm_24, lm_25, lm_26, lm_27, lm_28, lm_29, lm_30, lm_31) = lp_X7_decode_25 n v1 v2 ((v3 + 1)) (lm_0, lm_1, lm_2, lm_3, lm_4, lm_5, lm_6, lm_7, lm_8, lm_9, lm_10, lm_11, lm_12, lm_13, lm_14, lm_15, lm_16, lm_17, lm_18, lm_19, lm_20, lm_21, lm_22, lm_23, lm_24, lm_25, lm_26, lm_27, lm_28, lm_29, lm_30, lm_31) := by simp only [lp_X7_decode_25, ↓if_neg c_1, ↓if_neg c_2, ↓if_pos c_3]
          rw [hf]
          exact ih v1 v2 ((v3 + 1)) lm_0 lm_1 lm_2 lm_3 lm_4 lm_5 lm_6 lm_7 lm_8 lm_9 lm_10 lm_11 lm_12 lm_13 lm_14 lm_15 lm_16 lm_17 lm_18 lm_19 lm_20 lm_21 lm_22 lm_23 lm_24 lm_25 lm_26 lm_27 lm_28 lm_29 lm_30 lm_31 (by have e_0 := i_nle c_1; have e_1 := i_ne c_2; have e_2 := congrArg Int32.toInt c_3; have z0 : (0 : Int32).toInt = 0 := rfl; have z256 : (256 : Int32).toInt = 256 := rfl; have q := i_inc v3 (by omega); omega) _ _ hP hD hS ls (lv_sub hl [1, 2, 3, 0] rfl)
        · refine lv_aload_n hx hb dX7_decode_52 rfl (lv_at hl 0 rfl) ?_
          refine lv_iload_n hx hb dX7_decode_53 rfl (lv_at hl 3 rfl) ?_
          refine lv_iconst (v := 1) hx hb dX7_decode_54 (by decide) ?_
          refine lv_iload_n hx hb dX7_decode_55 rfl (lv_at hl 2 rfl) ?_
          refine kcalli (wr := []) (ws' := [(h, .inr (6, [.ref ha0, .ref ha1, .ref ha2, .ref ha3, .int lm_4, .ref ha5, .int lm_6, .int lm_7, .int lm_8, .int lm_9, .int lm_10, .int lm_11, .int lm_12, .int lm_13, .int lm_14, .int lm_15, .int lm_16, .int lm_17, .int lm_18, .int lm_19, .ref ha20, .int lm_21, .int lm_22, .int lm_23, .int lm_24, .ref ha25, .int lm_26, .ref ha27, .ref ha28, .ref ha29, .int lm_30, .int lm_31])), (ha0, .inl (cI, 64, .inl lm_0)), (ha1, .inl (cI, 16, .inl lm_1)), (ha2, .inl (cI, 16, .inl lm_2)), (ha3, .inl (cB, 8000, .inl lm_3)), (ha5, .inl (cB, 400, .inl lm_5)), (ha20, .inl (cI, 100, .inl lm_20)), (ha25, .inl (cB, 300, .inl lm_25)), (ha27, .inl (cI, 40, .inl lm_27)), (ha28, .inl (cZ, 40, .inl lm_28)), (ha29, .inl (cB, 12000, .inl lm_29))]) (krunV (As := [.int v3, .int 1, .int v2]) (rest := []) ⟨hx, hb, hml, hown, hts⟩ (c_X7_groupOf l D cB cI cZ h ha0 ha1 ha2 ha3 ha5 ha20 ha25 ha27 ha28 ha29 (lm_0, lm_1, lm_2, lm_3, lm_4, lm_5, lm_6, lm_7, lm_8, lm_9, lm_10, lm_11, lm_12, lm_13, lm_14, lm_15, lm_16, lm_17, lm_18, lm_19, lm_20, lm_21, lm_22, lm_23, lm_24, lm_25, lm_26, lm_27, lm_28, lm_29, lm_30, lm_31) v3 1 v2 (by have e_0 := i_nle c_1; have e_1 := i_ne c_2; have e_2 := i_ne c_3; have z0 : (0 : Int32).toInt = 0 := rfl; have z256 : (256 : Int32).toInt = 256 := rfl; omega)) (cwV 3 hts gX7_decode_X7_groupOf rfl rfl rfl (by decide +kernel) ⟨Nat.le_of_ble_eq_true rfl, Nat.le_of_ble_eq_true rfl⟩) hE hK hP hD hS hA [0, 1, 2, 3, 4, 5, 6, 7, 8, 9, 10] rfl (by decide) (ci := 6) (q0 := 0) rfl rfl rfl hl.1 rfl (Nat.le_of_ble_eq_true rfl) dX7_decode_56 ⟨Nat.zero_le _, Nat.zero_le _⟩) hP hD hS hA [0, 1, 2, 3, 4, 5, 6, 7, 8, 9, 10] [] [0, 1, 2, 3, 4, 5, 6, 7, 8, 9, 10] rfl rfl (by decide) (by decide) rfl (by decide) (fun H locs hP hD hS => ?_)
          refine lv_iload_n hx hb dX7_decode_59 rfl (lv_at hl 1 rfl) ?_
          refine lv_icmp_ne (tgt := 69) hx hb dX7_decode_60 (by decide) (fun c_4 => ?_) (fun c_4 => ?_)
          · refine lv_iinc (v := (v3 + 1)) (lv' := [(3, .int (v3 + 1)), (0, .ref h), (1, .int v1), (2, .int v2)]) hx hb dX7_decode_69 hl (k := 3) rfl rfl (by decide) rfl (fun ls hl => ?_)
            refine lv_goto (tgt := 25) hx hb dX7_decode_72 (by decide) ?_
            have hf : lp_X7_decode_25 (n + 1) v1 v2 v3 (lm_0, lm_1, lm_2, lm_3, lm_4, lm_5, lm_6, lm_7, lm_8, lm_9, lm_10, lm_11, lm_12, lm_13, lm_14, lm_15, lm_16, lm_17, lm_18, lm_19, lm_20, lm_21, lm_22, lm_23, lm_24, lm_25, lm_26, lm_27, lm_28, lm_29, lm_30, lm_31) = lp_X7_decode_25 n v1 v2 ((v3 + 1)) (lm_0, lm_1, lm_2, lm_3, lm_4, lm_5, lm_6, lm_7, lm_8, lm_9, lm_10, lm_11, lm_12, lm_13, lm_14, lm_15, lm_16, lm_17, lm_18, lm_19, lm_20, lm_21, lm_22, lm_23, lm_24, lm_25, lm_26, lm_27, lm_28, lm_29, lm_30, lm_31) := by simp only [lp_X7_decode_25, ↓if_neg c_1, ↓if_neg c_2, ↓if_neg c_3, ↓if_neg c_4]
            rw [hf]
            exact ih v1 v2 ((v3 + 1)) lm_0 lm_1 lm_2 lm_3 lm_4 lm_5 lm_6 lm_7 lm_8 lm_9 lm_10 lm_11 lm_12 lm_13 lm_14 lm_15 lm_16 lm_17 lm_18 lm_19 lm_20 lm_21 lm_22 lm_23 lm_24 lm_25 lm_26 lm_27 lm_28 lm_29 lm_30 lm_31 (by have e_0 := i_nle c_1; have e_1 := i_ne c_2; have e_2 := i_ne c_3; have e_3 := i_ne c_4; have z0 : (0 : Int32).toInt = 0 := rfl; have z256 : (256 : Int32).toInt = 256 := rfl; have q := i_inc v3 (by omega); omega) _ _ hP hD hS ls (lv_sub hl [1, 2, 3, 0] rfl)
          · refine lv_sipush (v := 256) hx hb dX7_decode_63 (by decide) ?_
            refine lv_iload_n hx hb dX7_decode_66 rfl (lv_at hl 3 rfl) ?_
            refine lv_iadd hx hb dX7_decode_67 ?_
            have hf : lp_X7_decode_25 (n + 1) v1 v2 v3 (lm_0, lm_1, lm_2, lm_3, lm_4, lm_5, lm_6, lm_7, lm_8, lm_9, lm_10, lm_11, lm_12, lm_13, lm_14, lm_15, lm_16, lm_17, lm_18, lm_19, lm_20, lm_21, lm_22, lm_23, lm_24, lm_25, lm_26, lm_27, lm_28, lm_29, lm_30, lm_31) = (256 + v3) := by simp only [lp_X7_decode_25, ↓if_neg c_1, ↓if_neg c_2, ↓if_neg c_3, ↓if_pos c_4]
            exact kreti hx hb hr hlocks hS hP hK hD dX7_decode_68 hf.symm rfl
      · refine lv_iload_n hx hb dX7_decode_43 rfl (lv_at hl 3 rfl) ?_
        have hf : lp_X7_decode_25 (n + 1) v1 v2 v3 (lm_0, lm_1, lm_2, lm_3, lm_4, lm_5, lm_6, lm_7, lm_8, lm_9, lm_10, lm_11, lm_12, lm_13, lm_14, lm_15, lm_16, lm_17, lm_18, lm_19, lm_20, lm_21, lm_22, lm_23, lm_24, lm_25, lm_26, lm_27, lm_28, lm_29, lm_30, lm_31) = v3 := by simp only [lp_X7_decode_25, ↓if_neg c_1, ↓if_pos c_2]
        exact kreti hx hb hr hlocks hS hP hK hD dX7_decode_44 hf.symm rfl
def f_X7_decode (g : Int32) (d : Int32) (M : MdS) : Int32 := match M with | (m_0, m_1, m_2, m_3, m_4, m_5, m_6, m_7, m_8, m_9, m_10, m_11, m_12, m_13, m_14, m_15, m_16, m_17, m_18, m_19, m_20, m_21, m_22, m_23, m_24, m_25, m_26, m_27, m_28, m_29, m_30, m_31) => (if g < 0 then (-1) else (if (1023 : Int32) < g then (-1) else (if d = (-1) then (lp_X7_decode_25 257 g d 0 (m_0, m_1, m_2, m_3, m_4, m_5, m_6, m_7, m_8, m_9, m_10, m_11, m_12, m_13, m_14, m_15, m_16, m_17, m_18, m_19, m_20, m_21, m_22, m_23, m_24, m_25, m_26, m_27, m_28, m_29, m_30, m_31)) else (if d = 1 then (lp_X7_decode_25 257 g d 0 (m_0, m_1, m_2, m_3, m_4, m_5, m_6, m_7, m_8, m_9, m_10, m_11, m_12, m_13, m_14, m_15, m_16, m_17, m_18, m_19, m_20, m_21, m_22, m_23, m_24, m_25, m_26, m_27, m_28, m_29, m_30, m_31)) else (-1)))))
set_option maxHeartbeats 4000000 in
set_option maxRecDepth 100000 in
theorem c_X7_decode (l : Launch) (D : va_G) (cB cI cZ : ClassId) (h ha0 ha1 ha2 ha3 ha5 ha20 ha25 ha27 ha28 ha29 : Nat) (M : MdS) (g : Int32) (d : Int32) : CtI l yX7_decode wsX7_decode rmX7_decode D (tyv cB cI cZ) [.ref h, .int g, .int d] (f_X7_decode g d M) (wMd cB cI cZ h ha0 ha1 ha2 ha3 ha5 ha20 ha25 ha27 ha28 ha29 M) (wMd cB cI cZ h ha0 ha1 ha2 ha3 ha5 ha20 ha25 ha27 ha28 ha29 M) := by
  obtain ⟨m_0, m_1, m_2, m_3, m_4, m_5, m_6, m_7, m_8, m_9, m_10, m_11, m_12, m_13, m_14, m_15, m_16, m_17, m_18, m_19, m_20, m_21, m_22, m_23, m_24, m_25, m_26, m_27, m_28, m_29, m_30, m_31⟩ := M
  refine CtI.of (cc := cX7_decode) (maxL := 4) (ret := (some .int)) (by decide +kernel) rfl (Nat.le_of_ble_eq_true rfl) ?_
  intro p e s m below meth c A ls hx hb hr hml hown hts hlocks hE hP hK hD hA hS hl
  have hown : s.vm.findClass RX7 = some m.cls := hown
  have hl : lv_has ls 4 [(0, .ref h), (1, .int g), (2, .int d)] := hl
  have hP : va_P D vwCl [(h, .inr (6, [.ref ha0, .ref ha1, .ref ha2, .ref ha3, .int m_4, .ref ha5, .int m_6, .int m_7, .int m_8, .int m_9, .int m_10, .int m_11, .int m_12, .int m_13, .int m_14, .int m_15, .int m_16, .int m_17, .int m_18, .int m_19, .ref ha20, .int m_21, .int m_22, .int m_23, .int m_24, .ref ha25, .int m_26, .ref ha27, .ref ha28, .ref ha29, .int m_30, .int m_31])), (ha0, .inl (cI, 64, .inl m_0)), (ha1, .inl (cI, 16, .inl m_1)), (ha2, .inl (cI, 16, .inl m_2)), (ha3, .inl (cB, 8000, .inl m_3)), (ha5, .inl (cB, 400, .inl m_5)), (ha20, .inl (cI, 100, .inl m_20)), (ha25, .inl (cB, 300, .inl m_25)), (ha27, .inl (cI, 40, .inl m_27)), (ha28, .inl (cZ, 40, .inl m_28)), (ha29, .inl (cB, 12000, .inl m_29))] s.heap := hP
  have hD : va_D A [(h, .inr (6, [.ref ha0, .ref ha1, .ref ha2, .ref ha3, .int m_4, .ref ha5, .int m_6, .int m_7, .int m_8, .int m_9, .int m_10, .int m_11, .int m_12, .int m_13, .int m_14, .int m_15, .int m_16, .int m_17, .int m_18, .int m_19, .ref ha20, .int m_21, .int m_22, .int m_23, .int m_24, .ref ha25, .int m_26, .ref ha27, .ref ha28, .ref ha29, .int m_30, .int m_31])), (ha0, .inl (cI, 64, .inl m_0)), (ha1, .inl (cI, 16, .inl m_1)), (ha2, .inl (cI, 16, .inl m_2)), (ha3, .inl (cB, 8000, .inl m_3)), (ha5, .inl (cB, 400, .inl m_5)), (ha20, .inl (cI, 100, .inl m_20)), (ha25, .inl (cB, 300, .inl m_25)), (ha27, .inl (cI, 40, .inl m_27)), (ha28, .inl (cZ, 40, .inl m_28)), (ha29, .inl (cB, 12000, .inl m_29))] := hD
  refine lv_iload_n hx hb dX7_decode_0 rfl (lv_at hl 1 rfl) ?_
  refine lv_if_lt (tgt := 21) hx hb dX7_decode_1 (by decide) (fun c_1 => ?_) (fun c_1 => ?_)
  · refine lv_iconst (v := (-1)) hx hb dX7_decode_21 (by decide) ?_
    have hf : f_X7_decode g d (m_0, m_1, m_2, m_3, m_4, m_5, m_6, m_7, m_8, m_9, m_10, m_11, m_12, m_13, m_14, m_15, m_16, m_17, m_18, m_19, m_20, m_21, m_22, m_23, m_24, m_25, m_26, m_27, m_28, m_29, m_30, m_31) = (-1) := by simp only [f_X7_decode, ↓if_pos c_1]
    exact kreti hx hb hr hlocks hS hP hK hD dX7_decode_22 hf.symm rfl
  · refine lv_iload_n hx hb dX7_decode_4 rfl (lv_at hl 1 rfl) ?_
    refine lv_sipush (v := 1023) hx hb dX7_decode_5 (by decide) ?_
    refine lv_icmp_gt (tgt := 21) hx hb dX7_decode_8 (by decide) (fun c_2 => ?_) (fun c_2 => ?_)
    · refine lv_iconst (v := (-1)) hx hb dX7_decode_21 (by decide) ?_
      have hf : f_X7_decode g d (m_0, m_1, m_2, m_3, m_4, m_5, m_6, m_7, m_8, m_9, m_10, m_11, m_12, m_13, m_14, m_15, m_16, m_17, m_18, m_19, m_20, m_21, m_22, m_23, m_24, m_25, m_26, m_27, m_28, m_29, m_30, m_31) = (-1) := by simp only [f_X7_decode, ↓if_neg c_1, ↓if_pos c_2]
      exact kreti hx hb hr hlocks hS hP hK hD dX7_decode_22 hf.symm rfl
    · refine lv_iload_n hx hb dX7_decode_11 rfl (lv_at hl 2 rfl) ?_
      refine lv_iconst (v := (-1)) hx hb dX7_decode_12 (by decide) ?_
      refine lv_icmp_eq (tgt := 23) hx hb dX7_decode_13 (by decide) (fun c_3 => ?_) (fun c_3 => ?_)
      · refine lv_iconst (v := 0) hx hb dX7_decode_23 (by decide) ?_
        refine lv_istore_n (lv' := [(3, .int 0), (0, .ref h), (1, .int g), (2, .int d)]) hx hb dX7_decode_24 rfl hl (by decide) rfl (fun ls hl => ?_)
        have hf : f_X7_decode g d (m_0, m_1, m_2, m_3, m_4, m_5, m_6, m_7, m_8, m_9, m_10, m_11, m_12, m_13, m_14, m_15, m_16, m_17, m_18, m_19, m_20, m_21, m_22, m_23, m_24, m_25, m_26, m_27, m_28, m_29, m_30, m_31) = lp_X7_decode_25 257 g d 0 (m_0, m_1, m_2, m_3, m_4, m_5, m_6, m_7, m_8, m_9, m_10, m_11, m_12, m_13, m_14, m_15, m_16, m_17, m_18, m_19, m_20, m_21, m_22, m_23, m_24, m_25, m_26, m_27, m_28, m_29, m_30, m_31) := by simp only [f_X7_decode, ↓if_neg c_1, ↓if_neg c_2, ↓if_pos c_3]
        rw [hf]
        exact lq_X7_decode_25 l D cB cI cZ h ha0 ha1 ha2 ha3 ha5 ha20 ha25 ha27 ha28 ha29 hx hb hr hml hown hts hlocks hE hK hA 257 g d 0 m_0 m_1 m_2 m_3 m_4 m_5 m_6 m_7 m_8 m_9 m_10 m_11 m_12 m_13 m_14 m_15 m_16 m_17 m_18 m_19 m_20 m_21 m_22 m_23 m_24 m_25 m_26 m_27 m_28 m_29 m_30 m_31 (by decide) _ _ hP hD hS ls (lv_sub hl [1, 2, 3, 0] rfl)
      · refine lv_iload_n hx hb dX7_decode_16 rfl (lv_at hl 2 rfl) ?_
        refine lv_iconst (v := 1) hx hb dX7_decode_17 (by decide) ?_
        refine lv_icmp_eq (tgt := 23) hx hb dX7_decode_18 (by decide) (fun c_4 => ?_) (fun c_4 => ?_)
        · refine lv_iconst (v := 0) hx hb dX7_decode_23 (by decide) ?_
          refine lv_istore_n (lv' := [(3, .int 0), (0, .ref h), (1, .int g), (2, .int d)]) hx hb dX7_decode_24 rfl hl (by decide) rfl (fun ls hl => ?_)
          have hf : f_X7_decode g d (m_0, m_1, m_2, m_3, m_4, m_5, m_6, m_7, m_8, m_9, m_10, m_11, m_12, m_13, m_14, m_15, m_16, m_17, m_18, m_19, m_20, m_21, m_22, m_23, m_24, m_25, m_26, m_27, m_28, m_29, m_30, m_31) = lp_X7_decode_25 257 g d 0 (m_0, m_1, m_2, m_3, m_4, m_5, m_6, m_7, m_8, m_9, m_10, m_11, m_12, m_13, m_14, m_15, m_16, m_17, m_18, m_19, m_20, m_21, m_22, m_23, m_24, m_25, m_26, m_27, m_28, m_29, m_30, m_31) := by simp only [f_X7_decode, ↓if_neg c_1, ↓if_neg c_2, ↓if_neg c_3, ↓if_pos c_4]
          rw [hf]
          exact lq_X7_decode_25 l D cB cI cZ h ha0 ha1 ha2 ha3 ha5 ha20 ha25 ha27 ha28 ha29 hx hb hr hml hown hts hlocks hE hK hA 257 g d 0 m_0 m_1 m_2 m_3 m_4 m_5 m_6 m_7 m_8 m_9 m_10 m_11 m_12 m_13 m_14 m_15 m_16 m_17 m_18 m_19 m_20 m_21 m_22 m_23 m_24 m_25 m_26 m_27 m_28 m_29 m_30 m_31 (by decide) _ _ hP hD hS ls (lv_sub hl [1, 2, 3, 0] rfl)
        · refine lv_iconst (v := (-1)) hx hb dX7_decode_21 (by decide) ?_
          have hf : f_X7_decode g d (m_0, m_1, m_2, m_3, m_4, m_5, m_6, m_7, m_8, m_9, m_10, m_11, m_12, m_13, m_14, m_15, m_16, m_17, m_18, m_19, m_20, m_21, m_22, m_23, m_24, m_25, m_26, m_27, m_28, m_29, m_30, m_31) = (-1) := by simp only [f_X7_decode, ↓if_neg c_1, ↓if_neg c_2, ↓if_neg c_3, ↓if_neg c_4]
          exact kreti hx hb hr hlocks hS hP hK hD dX7_decode_22 hf.symm rfl

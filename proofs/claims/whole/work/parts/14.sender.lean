abbrev rmX4_frameGroups : Room := { frames := 0, cells := 0, slots := 0, locals := 0 }
def f_X4_frameGroups (S : SdS) : Int32 := match S with | (s_0, s_1, s_2, s_3) => ((s_1 + 3) + ((s_3 + (s_1 + 3)) &&& 1))
set_option maxHeartbeats 4000000 in
set_option maxRecDepth 100000 in
theorem c_X4_frameGroups (l : Launch) (D : va_G) (cB cI cZ : ClassId) (h ha0 : Nat) (S : SdS) : CtI l yX4_frameGroups wsX4_frameGroups rmX4_frameGroups D (tyv cB cI cZ) [.ref h] (f_X4_frameGroups S) (wSd cB cI cZ h ha0 S) (wSd cB cI cZ h ha0 S) := by
  obtain ⟨s_0, s_1, s_2, s_3⟩ := S
  refine CtI.of (cc := cX4_frameGroups) (maxL := 2) (ret := (some .int)) (by decide +kernel) rfl (Nat.le_of_ble_eq_true rfl) ?_
  intro p e s m below meth c A ls hx hb hr hml hown hts hlocks hE hP hK hD hA hS hl
  have hown : s.vm.findClass RX4 = some m.cls := hown
  have hl : lv_has ls 2 [(0, .ref h)] := hl
  have hP : va_P D vwCl [(h, .inr (3, [.ref ha0, .int s_1, .int s_2, .int s_3])), (ha0, .inl (cI, 400, .inl s_0))] s.heap := hP
  have hD : va_D A [(h, .inr (3, [.ref ha0, .int s_1, .int s_2, .int s_3])), (ha0, .inl (cI, 400, .inl s_0))] := hD
  have hiX4 : ∀ w ∈ wsX40, w ∈ wsX4_frameGroups := by decide +kernel
  have k15 := hts (.fieldLink RX4 15 "CodedGroups$Sender" "taped" "I") (by decide +kernel)
  have k22 := hts (.fieldLink RX4 22 "CodedGroups$Sender" "sent" "I") (by decide +kernel)
  refine lv_aload_n hx hb dX4_frameGroups_0 rfl (lv_at hl 0 rfl) ?_
  refine va_get (D := D) (ci := 3) (v := .int s_1) (C := RX4) (T := TX4) (N := 4) hx hb hts hiX4 hown hK hP 0 rfl rfl 1 (by decide) k15 (fun _ h9 => h9) rfl dX4_frameGroups_1 ?_
  refine lv_iconst (v := 3) hx hb dX4_frameGroups_4 (by decide) ?_
  refine lv_iadd hx hb dX4_frameGroups_5 ?_
  refine lv_istore_n (lv' := [(1, .int (s_1 + 3)), (0, .ref h)]) hx hb dX4_frameGroups_6 rfl hl (by decide) rfl (fun ls hl => ?_)
  refine lv_iload_n hx hb dX4_frameGroups_7 rfl (lv_at hl 0 rfl) ?_
  refine lv_aload_n hx hb dX4_frameGroups_8 rfl (lv_at hl 1 rfl) ?_
  refine va_get (D := D) (ci := 3) (v := .int s_3) (C := RX4) (T := TX4) (N := 4) hx hb hts hiX4 hown hK hP 0 rfl rfl 3 (by decide) k22 (fun _ h9 => h9) rfl dX4_frameGroups_9 ?_
  refine lv_iload_n hx hb dX4_frameGroups_12 rfl (lv_at hl 0 rfl) ?_
  refine lv_iadd hx hb dX4_frameGroups_13 ?_
  refine lv_iconst (v := 1) hx hb dX4_frameGroups_14 (by decide) ?_
  refine lv_iand hx hb dX4_frameGroups_15 ?_
  refine lv_iadd hx hb dX4_frameGroups_16 ?_
  have hf : f_X4_frameGroups (s_0, s_1, s_2, s_3) = ((s_1 + 3) + ((s_3 + (s_1 + 3)) &&& 1)) := by simp only [f_X4_frameGroups]
  exact kreti hx hb hr hlocks hS hP hK hD dX4_frameGroups_17 hf.symm rfl

abbrev rmX4_put : Room := { frames := 3, cells := 0, slots := 0, locals := 67 }
def lp_X4_put_15 : Nat → Int32 → Int32 → SdS → LnS → (Int32 × SdS × LnS)
  | 0, _, _, (ls_0, ls_1, ls_2, ls_3), (ll_0, ll_1) => (0, (ls_0, ls_1, ls_2, ls_3), (ll_0, ll_1))
  | n + 1, v4, v5, (ls_0, ls_1, ls_2, ls_3), (ll_0, ll_1) => (if v5 < 0 then (v4, (ls_0, ls_1, (f_X0_behindGroup v4 ls_2), (ls_3 + 1)), (ll_0, ll_1)) else (match f_X2_append (((v4 >>> ((v5 : Int32) &&& 31)) &&& 1)) (ll_0, ll_1) with | (r_2, (n2a_0, n2a_1)) => lp_X4_put_15 n v4 ((v5 + (-1))) (ls_0, ls_1, ls_2, ls_3) (n2a_0, n2a_1)))
set_option maxHeartbeats 4000000 in
set_option maxRecDepth 100000 in
theorem lq_X4_put_15 (l : Launch) (D : va_G) (cB cI cZ : ClassId) (h ha0 k ka0 : Nat) {p : Program} {e : Env} {s : State} {m : MethodId} {args : Array Value} {below : List Frame} {meth : Method} {c : Code} {A : Nat → Prop} (hx : p.tables.exec = Jvm.exec) (hb : c.code = cX4_put) (hr : meth.sig.returnType = (some .int)) (hml : c.maxLocals = 6) (hown : s.vm.findClass RX4 = some m.cls) (hts : ∀ w ∈ wsX4_put, w.before args s = true) (hlocks : meth.locks = false) (hE : ev A s s.heap) (hK : va_K D vwCl (tyv cB cI cZ) s) (hA : ∀ q, s.heap.size ≤ q → A q) : ∀ (n : Nat) (v4 : Int32) (v5 : Int32) (ls_0 : Nat → Int32) (ls_1 : Int32) (ls_2 : Int32) (ls_3 : Int32) (ll_0 : Nat → Int32) (ll_1 : Int32), (-1 ≤ v5.toInt ∧ v5.toInt ≤ 9 ∧ v5.toInt + 1 < (n : Int)) → ∀ (H : Heap) (locs : List Loc), va_P D vwCl [(h, .inr (3, [.ref ha0, .int ls_1, .int ls_2, .int ls_3])), (ha0, .inl (cI, 400, .inl ls_0)), (k, .inr (1, [.ref ka0, .int ll_1])), (ka0, .inl (cB, 8000, .inl ll_0))] H → va_D A [(h, .inr (3, [.ref ha0, .int ls_1, .int ls_2, .int ls_3])), (ha0, .inl (cI, 400, .inl ls_0)), (k, .inr (1, [.ref ka0, .int ll_1])), (ka0, .inl (cB, 8000, .inl ll_0))] → va_S A s.heap H locs → ∀ (ls : Array Slot), lv_has ls 6 [(0, .ref h), (3, .ref k), (4, .int v4), (5, .int v5)] → W p l e rmX4_put s m args below meth c H locs 0 0 (MQ below (kQi D (tyv cB cI cZ) A (lp_X4_put_15 n v4 v5 (ls_0, ls_1, ls_2, ls_3) (ll_0, ll_1)).1 ((wSd cB cI cZ h ha0 ((lp_X4_put_15 n v4 v5 (ls_0, ls_1, ls_2, ls_3) (ll_0, ll_1)).2.1)) ++ (wLn cB cI cZ k ka0 ((lp_X4_put_15 n v4 v5 (ls_0, ls_1, ls_2, ls_3) (ll_0, ll_1)).2.2)))) args s 0 0 A) (F0 m 15 ls []) := by
  have hiX4 : ∀ w ∈ wsX40, w ∈ wsX4_put := by decide +kernel
  have k19 := hts (.fieldLink RX4 19 "CodedGroups$Sender" "lean" "I") (by decide +kernel)
  have k22 := hts (.fieldLink RX4 22 "CodedGroups$Sender" "sent" "I") (by decide +kernel)
  intro n
  induction n with
  | zero => intro v4 v5 ls_0 ls_1 ls_2 ls_3 ll_0 ll_1 hm; omega
  | succ n ih =>
    intro v4 v5 ls_0 ls_1 ls_2 ls_3 ll_0 ll_1 hm H locs hP hD hS ls hl
    refine lv_iload hx hb dX4_put_15 (lv_at hl 3 rfl) ?_
    refine lv_if_lt (tgt := 38) hx hb dX4_put_17 (by decide) (fun c_1 => ?_) (fun c_1 => ?_)
    · refine lv_aload_n hx hb dX4_put_38 rfl (lv_at hl 0 rfl) ?_
      refine lv_iload hx hb dX4_put_39 (lv_at hl 2 rfl) ?_
      refine lv_aload_n hx hb dX4_put_41 rfl (lv_at hl 0 rfl) ?_
      refine va_get (D := D) (ci := 3) (v := .int ls_2) (C := RX4) (T := TX4) (N := 4) hx hb hts hiX4 hown hK hP 0 rfl rfl 2 (by decide) k19 (fun _ h9 => h9) rfl dX4_put_42 ?_
      refine kcall0 (krunS (As := [.int v4, .int ls_2]) (rest := [.ref h]) ⟨hx, hb, hml, hown, hts⟩ (c_X0_behindGroup l D cB cI cZ v4 ls_2) (va_cwS 2 hts gX4_put_X0_behindGroup rfl rfl rfl (by decide +kernel) ⟨Nat.le_of_ble_eq_true rfl, Nat.le_of_ble_eq_true rfl⟩) hE hK hP hD hS hA [] rfl (by decide) rfl hl.1 rfl (Nat.le_of_ble_eq_true rfl) dX4_put_45 ⟨Nat.zero_le _, Nat.zero_le _⟩) hP hS hA (fun H locs hP hS => ?_)
      refine va_put (D := D) (ci := 3) (v := .int (f_X0_behindGroup v4 ls_2)) (ty := .int) (C := RX4) (T := TX4) (N := 4) hx hb hts hiX4 tyX4 tyX4_ok nmX4 hown hK hP hD hS 0 rfl rfl 2 (by decide) k19 (fun _ h9 => h9) rfl (by decide +kernel) rfl rfl (Nat.le_of_ble_eq_true rfl) dX4_put_48 (fun H locs hP hD hS => ?_)
      have hP : va_P D vwCl [(h, .inr (3, [.ref ha0, .int ls_1, .int (f_X0_behindGroup v4 ls_2), .int ls_3])), (ha0, .inl (cI, 400, .inl ls_0)), (k, .inr (1, [.ref ka0, .int ll_1])), (ka0, .inl (cB, 8000, .inl ll_0))] H := hP
      have hD : va_D A [(h, .inr (3, [.ref ha0, .int ls_1, .int (f_X0_behindGroup v4 ls_2), .int ls_3])), (ha0, .inl (cI, 400, .inl ls_0)), (k, .inr (1, [.ref ka0, .int ll_1])), (ka0, .inl (cB, 8000, .inl ll_0))] := hD
      refine lv_aload_n hx hb dX4_put_51 rfl (lv_at hl 0 rfl) ?_
      refine lv_dup hx hb dX4_put_52 rfl ?_
      refine va_get (D := D) (ci := 3) (v := .int ls_3) (C := RX4) (T := TX4) (N := 4) hx hb hts hiX4 hown hK hP 0 rfl rfl 3 (by decide) k22 (fun _ h9 => h9) rfl dX4_put_53 ?_
      refine lv_iconst (v := 1) hx hb dX4_put_56 (by decide) ?_
      refine lv_iadd hx hb dX4_put_57 ?_
      refine va_put (D := D) (ci := 3) (v := .int (ls_3 + 1)) (ty := .int) (C := RX4) (T := TX4) (N := 4) hx hb hts hiX4 tyX4 tyX4_ok nmX4 hown hK hP hD hS 0 rfl rfl 3 (by decide) k22 (fun _ h9 => h9) rfl (by decide +kernel) rfl rfl (Nat.le_of_ble_eq_true rfl) dX4_put_58 (fun H locs hP hD hS => ?_)
      have hP : va_P D vwCl [(h, .inr (3, [.ref ha0, .int ls_1, .int (f_X0_behindGroup v4 ls_2), .int (ls_3 + 1)])), (ha0, .inl (cI, 400, .inl ls_0)), (k, .inr (1, [.ref ka0, .int ll_1])), (ka0, .inl (cB, 8000, .inl ll_0))] H := hP
      have hD : va_D A [(h, .inr (3, [.ref ha0, .int ls_1, .int (f_X0_behindGroup v4 ls_2), .int (ls_3 + 1)])), (ha0, .inl (cI, 400, .inl ls_0)), (k, .inr (1, [.ref ka0, .int ll_1])), (ka0, .inl (cB, 8000, .inl ll_0))] := hD
      refine lv_iload hx hb dX4_put_61 (lv_at hl 2 rfl) ?_
      have hf : lp_X4_put_15 (n + 1) v4 v5 (ls_0, ls_1, ls_2, ls_3) (ll_0, ll_1) = (v4, (ls_0, ls_1, (f_X0_behindGroup v4 ls_2), (ls_3 + 1)), (ll_0, ll_1)) := by simp only [lp_X4_put_15, ↓if_pos c_1]
      exact kreti hx hb hr hlocks hS hP hK hD dX4_put_63 (congrArg (fun u : Int32 × SdS × LnS => u.1) hf).symm (congrArg (fun u : Int32 × SdS × LnS => (wSd cB cI cZ h ha0 u.2.1) ++ (wLn cB cI cZ k ka0 u.2.2)) hf).symm
    · refine lv_aload_n hx hb dX4_put_20 rfl (lv_at hl 1 rfl) ?_
      refine lv_iload hx hb dX4_put_21 (lv_at hl 2 rfl) ?_
      refine lv_iload hx hb dX4_put_23 (lv_at hl 3 rfl) ?_
      refine lv_ishr hx hb dX4_put_25 ?_
      refine lv_iconst (v := 1) hx hb dX4_put_26 (by decide) ?_
      refine lv_iand hx hb dX4_put_27 ?_
      refine kcalliU (f_X2_append (((v4 >>> ((v5 : Int32) &&& 31)) &&& 1)) (ll_0, ll_1)) (fun u : Int32 × LnS => u.1) (fun u : Int32 × LnS => (wLn cB cI cZ k ka0 u.2)) (fun u : Int32 × LnS => [(h, .inr (3, [.ref ha0, .int ls_1, .int ls_2, .int ls_3])), (ha0, .inl (cI, 400, .inl ls_0)), (k, .inr (1, [.ref ka0, .int u.2.2])), (ka0, .inl (cB, 8000, .inl u.2.1))]) (wr := [(h, .inr (3, [.ref ha0, .int ls_1, .int ls_2, .int ls_3])), (ha0, .inl (cI, 400, .inl ls_0))]) (krunV (As := [.int ((v4 >>> ((v5 : Int32) &&& 31)) &&& 1)]) (rest := []) ⟨hx, hb, hml, hown, hts⟩ (c_X2_append l D cB cI cZ k ka0 (ll_0, ll_1) (((v4 >>> ((v5 : Int32) &&& 31)) &&& 1))) (cwV 1 hts gX4_put_X2_append rfl rfl rfl (by decide +kernel) ⟨Nat.le_of_ble_eq_true rfl, Nat.le_of_ble_eq_true rfl⟩) hE hK hP hD hS hA [2, 3] rfl (by decide) (ci := 1) (q0 := 2) rfl rfl rfl hl.1 rfl (Nat.le_of_ble_eq_true rfl) dX4_put_28 ⟨Nat.zero_le _, Nat.zero_le _⟩) hP hD hS hA [2, 3] [0, 1] [0, 1, 2, 3] rfl rfl (by decide) (by decide) (fun _ => rfl) (by decide) (fun u hu_2 H locs hP hD hS => ?_)
      obtain ⟨r_2, ⟨n2a_0, n2a_1⟩⟩ := u
      have hP : va_P D vwCl [(h, .inr (3, [.ref ha0, .int ls_1, .int ls_2, .int ls_3])), (ha0, .inl (cI, 400, .inl ls_0)), (k, .inr (1, [.ref ka0, .int n2a_1])), (ka0, .inl (cB, 8000, .inl n2a_0))] H := hP
      have hD : va_D A [(h, .inr (3, [.ref ha0, .int ls_1, .int ls_2, .int ls_3])), (ha0, .inl (cI, 400, .inl ls_0)), (k, .inr (1, [.ref ka0, .int n2a_1])), (ka0, .inl (cB, 8000, .inl n2a_0))] := hD
      refine W.eq (g2 := F0 m 31 ls [.int r_2]) rfl ?_
      refine lv_pop hx hb dX4_put_31 rfl ?_
      refine lv_iinc (v := (v5 + (-1))) (lv' := [(5, .int (v5 + (-1))), (0, .ref h), (3, .ref k), (4, .int v4)]) hx hb dX4_put_32 hl (k := 3) rfl rfl (by decide) rfl (fun ls hl => ?_)
      refine lv_goto (tgt := 15) hx hb dX4_put_35 (by decide) ?_
      have hf : lp_X4_put_15 (n + 1) v4 v5 (ls_0, ls_1, ls_2, ls_3) (ll_0, ll_1) = lp_X4_put_15 n v4 ((v5 + (-1))) (ls_0, ls_1, ls_2, ls_3) (n2a_0, n2a_1) := by simp only [lp_X4_put_15, hu_2, ↓if_neg c_1]
      rw [hf]
      exact ih v4 ((v5 + (-1))) ls_0 ls_1 ls_2 ls_3 n2a_0 n2a_1 (by have e_0 := i_nlt c_1; have z0 : (0 : Int32).toInt = 0 := rfl; have q := i_dec v5 (by omega); omega) _ _ hP hD hS ls (lv_sub hl [1, 2, 3, 0] rfl)
def f_X4_put (v : Int32) (sg : Int32) (S : SdS) (L : LnS) : Int32 × SdS × LnS := match S, L with | (s_0, s_1, s_2, s_3), (l_0, l_1) => (letv ((f_X0_groupOf v sg s_2)) (fun x_1 => (lp_X4_put_15 11 x_1 9 (s_0, s_1, s_2, s_3) (l_0, l_1))))
set_option maxHeartbeats 4000000 in
set_option maxRecDepth 100000 in
theorem c_X4_put (l : Launch) (D : va_G) (cB cI cZ : ClassId) (h ha0 k ka0 : Nat) (S : SdS) (L : LnS) (v : Int32) (sg : Int32) : CtI l yX4_put wsX4_put rmX4_put D (tyv cB cI cZ) [.ref h, .int v, .int sg, .ref k] (f_X4_put v sg S L).1 ((wSd cB cI cZ h ha0 S) ++ (wLn cB cI cZ k ka0 L)) ((wSd cB cI cZ h ha0 ((f_X4_put v sg S L).2.1)) ++ (wLn cB cI cZ k ka0 ((f_X4_put v sg S L).2.2))) := by
  obtain ⟨s_0, s_1, s_2, s_3⟩ := S
  obtain ⟨l_0, l_1⟩ := L
  refine CtI.of (cc := cX4_put) (maxL := 6) (ret := (some .int)) (by decide +kernel) rfl (Nat.le_of_ble_eq_true rfl) ?_
  intro p e s m below meth c A ls hx hb hr hml hown hts hlocks hE hP hK hD hA hS hl
  have hown : s.vm.findClass RX4 = some m.cls := hown
  have hl : lv_has ls 6 [(0, .ref h), (1, .int v), (2, .int sg), (3, .ref k)] := hl
  have hP : va_P D vwCl [(h, .inr (3, [.ref ha0, .int s_1, .int s_2, .int s_3])), (ha0, .inl (cI, 400, .inl s_0)), (k, .inr (1, [.ref ka0, .int l_1])), (ka0, .inl (cB, 8000, .inl l_0))] s.heap := hP
  have hD : va_D A [(h, .inr (3, [.ref ha0, .int s_1, .int s_2, .int s_3])), (ha0, .inl (cI, 400, .inl s_0)), (k, .inr (1, [.ref ka0, .int l_1])), (ka0, .inl (cB, 8000, .inl l_0))] := hD
  have hiX4 : ∀ w ∈ wsX40, w ∈ wsX4_put := by decide +kernel
  have k19 := hts (.fieldLink RX4 19 "CodedGroups$Sender" "lean" "I") (by decide +kernel)
  refine lv_iload_n hx hb dX4_put_0 rfl (lv_at hl 1 rfl) ?_
  refine lv_iload_n hx hb dX4_put_1 rfl (lv_at hl 2 rfl) ?_
  refine lv_aload_n hx hb dX4_put_2 rfl (lv_at hl 0 rfl) ?_
  refine va_get (D := D) (ci := 3) (v := .int s_2) (C := RX4) (T := TX4) (N := 4) hx hb hts hiX4 hown hK hP 0 rfl rfl 2 (by decide) k19 (fun _ h9 => h9) rfl dX4_put_3 ?_
  refine kcall0 (krunS (As := [.int v, .int sg, .int s_2]) (rest := []) ⟨hx, hb, hml, hown, hts⟩ (c_X0_groupOf l D cB cI cZ v sg s_2) (va_cwS 3 hts gX4_put_X0_groupOf rfl rfl rfl (by decide +kernel) ⟨Nat.le_of_ble_eq_true rfl, Nat.le_of_ble_eq_true rfl⟩) hE hK hP hD hS hA [] rfl (by decide) rfl hl.1 rfl (Nat.le_of_ble_eq_true rfl) dX4_put_6 ⟨Nat.zero_le _, Nat.zero_le _⟩) hP hS hA (fun H locs hP hS => ?_)
  refine lv_topi (fun x_1 ex_1 => ?_)
  refine lv_istore (lv' := [(4, .int x_1), (0, .ref h), (1, .int v), (2, .int sg), (3, .ref k)]) hx hb dX4_put_9 hl (by decide) rfl (fun ls hl => ?_)
  refine lv_bipush (v := 9) hx hb dX4_put_11 (by decide) ?_
  refine lv_istore (lv' := [(5, .int 9), (4, .int x_1), (0, .ref h), (1, .int v), (2, .int sg), (3, .ref k)]) hx hb dX4_put_13 hl (by decide) rfl (fun ls hl => ?_)
  have hf : f_X4_put v sg (s_0, s_1, s_2, s_3) (l_0, l_1) = lp_X4_put_15 11 x_1 9 (s_0, s_1, s_2, s_3) (l_0, l_1) := by simp only [f_X4_put, ↓letv_eq ex_1]
  rw [hf]
  exact lq_X4_put_15 l D cB cI cZ h ha0 k ka0 hx hb hr hml hown hts hlocks hE hK hA 11 x_1 9 s_0 s_1 s_2 s_3 l_0 l_1 (by decide) _ _ hP hD hS ls (lv_sub hl [2, 5, 1, 0] rfl)

abbrev rmX4_putIdle : Room := { frames := 4, cells := 0, slots := 0, locals := 92 }
def f_X4_putIdle (S : SdS) (L : LnS) : Int32 × SdS × LnS := match S, L with | (s_0, s_1, s_2, s_3), (l_0, l_1) => (if (f_X2_hasRoomFor 20 (l_0, l_1)) = 0 then (0, (s_0, s_1, s_2, s_3), (l_0, l_1)) else (if s_2 ≤ 0 then (match f_X4_put 188 1 (s_0, s_1, s_2, s_3) (l_0, l_1) with | (r_3, (n3a_0, n3a_1, n3a_2, n3a_3), (n3b_0, n3b_1)) => (match f_X4_put 80 0 (n3a_0, n3a_1, n3a_2, n3a_3) (n3b_0, n3b_1) with | (r_4, (n4a_0, n4a_1, n4a_2, n4a_3), (n4b_0, n4b_1)) => (1, (n4a_0, n4a_1, n4a_2, n4a_3), (n4b_0, n4b_1)))) else (match f_X4_put 188 1 (s_0, s_1, s_2, s_3) (l_0, l_1) with | (r_5, (n5a_0, n5a_1, n5a_2, n5a_3), (n5b_0, n5b_1)) => (match f_X4_put 197 0 (n5a_0, n5a_1, n5a_2, n5a_3) (n5b_0, n5b_1) with | (r_6, (n6a_0, n6a_1, n6a_2, n6a_3), (n6b_0, n6b_1)) => (1, (n6a_0, n6a_1, n6a_2, n6a_3), (n6b_0, n6b_1))))))
set_option maxHeartbeats 4000000 in
set_option maxRecDepth 100000 in
theorem c_X4_putIdle (l : Launch) (D : va_G) (cB cI cZ : ClassId) (h ha0 k ka0 : Nat) (S : SdS) (L : LnS) : CtI l yX4_putIdle wsX4_putIdle rmX4_putIdle D (tyv cB cI cZ) [.ref h, .ref k] (f_X4_putIdle S L).1 ((wSd cB cI cZ h ha0 S) ++ (wLn cB cI cZ k ka0 L)) ((wSd cB cI cZ h ha0 ((f_X4_putIdle S L).2.1)) ++ (wLn cB cI cZ k ka0 ((f_X4_putIdle S L).2.2))) := by
  obtain ⟨s_0, s_1, s_2, s_3⟩ := S
  obtain ⟨l_0, l_1⟩ := L
  refine CtI.of (cc := cX4_putIdle) (maxL := 3) (ret := (some .boolean)) (by decide +kernel) rfl (Nat.le_of_ble_eq_true rfl) ?_
  intro p e s m below meth c A ls hx hb hr hml hown hts hlocks hE hP hK hD hA hS hl
  have hown : s.vm.findClass RX4 = some m.cls := hown
  have hl : lv_has ls 3 [(0, .ref h), (1, .ref k)] := hl
  have hP : va_P D vwCl [(h, .inr (3, [.ref ha0, .int s_1, .int s_2, .int s_3])), (ha0, .inl (cI, 400, .inl s_0)), (k, .inr (1, [.ref ka0, .int l_1])), (ka0, .inl (cB, 8000, .inl l_0))] s.heap := hP
  have hD : va_D A [(h, .inr (3, [.ref ha0, .int s_1, .int s_2, .int s_3])), (ha0, .inl (cI, 400, .inl s_0)), (k, .inr (1, [.ref ka0, .int l_1])), (ka0, .inl (cB, 8000, .inl l_0))] := hD
  have hiX4 : ∀ w ∈ wsX40, w ∈ wsX4_putIdle := by decide +kernel
  have k19 := hts (.fieldLink RX4 19 "CodedGroups$Sender" "lean" "I") (by decide +kernel)
  refine lv_aload_n hx hb dX4_putIdle_0 rfl (lv_at hl 1 rfl) ?_
  refine lv_bipush (v := 20) hx hb dX4_putIdle_1 (by decide) ?_
  refine kcalli (wr := [(h, .inr (3, [.ref ha0, .int s_1, .int s_2, .int s_3])), (ha0, .inl (cI, 400, .inl s_0))]) (ws' := [(h, .inr (3, [.ref ha0, .int s_1, .int s_2, .int s_3])), (ha0, .inl (cI, 400, .inl s_0)), (k, .inr (1, [.ref ka0, .int l_1])), (ka0, .inl (cB, 8000, .inl l_0))]) (krunV (As := [.int 20]) (rest := []) ⟨hx, hb, hml, hown, hts⟩ (c_X2_hasRoomFor l D cB cI cZ k ka0 (l_0, l_1) 20) (cwV 1 hts gX4_putIdle_X2_hasRoomFor rfl rfl rfl (by decide +kernel) ⟨Nat.le_of_ble_eq_true rfl, Nat.le_of_ble_eq_true rfl⟩) hE hK hP hD hS hA [2, 3] rfl (by decide) (ci := 1) (q0 := 2) rfl rfl rfl hl.1 rfl (Nat.le_of_ble_eq_true rfl) dX4_putIdle_3 ⟨Nat.zero_le _, Nat.zero_le _⟩) hP hD hS hA [2, 3] [0, 1] [0, 1, 2, 3] rfl rfl (by decide) (by decide) rfl (by decide) (fun H locs hP hD hS => ?_)
  refine lv_if_ne (tgt := 11) hx hb dX4_putIdle_6 (by decide) (fun c_1 => ?_) (fun c_1 => ?_)
  · refine lv_aload_n hx hb dX4_putIdle_11 rfl (lv_at hl 0 rfl) ?_
    refine va_get (D := D) (ci := 3) (v := .int s_2) (C := RX4) (T := TX4) (N := 4) hx hb hts hiX4 hown hK hP 0 rfl rfl 2 (by decide) k19 (fun _ h9 => h9) rfl dX4_putIdle_12 ?_
    refine lv_if_le (tgt := 24) hx hb dX4_putIdle_15 (by decide) (fun c_2 => ?_) (fun c_2 => ?_)
    · refine lv_bipush (v := 80) hx hb dX4_putIdle_24 (by decide) ?_
      refine lv_istore_n (lv' := [(2, .int 80), (0, .ref h), (1, .ref k)]) hx hb dX4_putIdle_26 rfl hl (by decide) rfl (fun ls hl => ?_)
      refine lv_aload_n hx hb dX4_putIdle_27 rfl (lv_at hl 1 rfl) ?_
      refine lv_sipush (v := 188) hx hb dX4_putIdle_28 (by decide) ?_
      refine lv_iconst (v := 1) hx hb dX4_putIdle_31 (by decide) ?_
      refine lv_aload_n hx hb dX4_putIdle_32 rfl (lv_at hl 2 rfl) ?_
      refine kcalliU (f_X4_put 188 1 (s_0, s_1, s_2, s_3) (l_0, l_1)) (fun u : Int32 × SdS × LnS => u.1) (fun u : Int32 × SdS × LnS => (wSd cB cI cZ h ha0 u.2.1) ++ (wLn cB cI cZ k ka0 u.2.2)) (fun u : Int32 × SdS × LnS => [(h, .inr (3, [.ref ha0, .int u.2.1.2.1, .int u.2.1.2.2.1, .int u.2.1.2.2.2])), (ha0, .inl (cI, 400, .inl u.2.1.1)), (k, .inr (1, [.ref ka0, .int u.2.2.2])), (ka0, .inl (cB, 8000, .inl u.2.2.1))]) (wr := []) (krunV (As := [.int 188, .int 1, .ref k]) (rest := []) ⟨hx, hb, hml, hown, hts⟩ (c_X4_put l D cB cI cZ h ha0 k ka0 (s_0, s_1, s_2, s_3) (l_0, l_1) 188 1) (cwV 3 hts gX4_putIdle_X4_put rfl rfl rfl (by decide +kernel) ⟨Nat.le_of_ble_eq_true rfl, Nat.le_of_ble_eq_true rfl⟩) hE hK hP hD hS hA [0, 1, 2, 3] rfl (by decide) (ci := 3) (q0 := 0) rfl rfl rfl hl.1 rfl (Nat.le_of_ble_eq_true rfl) dX4_putIdle_33 ⟨Nat.zero_le _, Nat.zero_le _⟩) hP hD hS hA [0, 1, 2, 3] [] [0, 1, 2, 3] rfl rfl (by decide) (by decide) (fun _ => rfl) (by decide) (fun u hu_3 H locs hP hD hS => ?_)
      obtain ⟨r_3, ⟨n3a_0, n3a_1, n3a_2, n3a_3⟩, ⟨n3b_0, n3b_1⟩⟩ := u
      have hP : va_P D vwCl [(h, .inr (3, [.ref ha0, .int n3a_1, .int n3a_2, .int n3a_3])), (ha0, .inl (cI, 400, .inl n3a_0)), (k, .inr (1, [.ref ka0, .int n3b_1])), (ka0, .inl (cB, 8000, .inl n3b_0))] H := hP
      have hD : va_D A [(h, .inr (3, [.ref ha0, .int n3a_1, .int n3a_2, .int n3a_3])), (ha0, .inl (cI, 400, .inl n3a_0)), (k, .inr (1, [.ref ka0, .int n3b_1])), (ka0, .inl (cB, 8000, .inl n3b_0))] := hD
      refine W.eq (g2 := F0 m 36 ls [.int r_3]) rfl ?_
      refine lv_pop hx hb dX4_putIdle_36 rfl ?_
      refine lv_aload_n hx hb dX4_putIdle_37 rfl (lv_at hl 1 rfl) ?_
      refine lv_iload_n hx hb dX4_putIdle_38 rfl (lv_at hl 0 rfl) ?_
      refine lv_iconst (v := 0) hx hb dX4_putIdle_39 (by decide) ?_
      refine lv_aload_n hx hb dX4_putIdle_40 rfl (lv_at hl 2 rfl) ?_
      refine kcalliU (f_X4_put 80 0 (n3a_0, n3a_1, n3a_2, n3a_3) (n3b_0, n3b_1)) (fun u : Int32 × SdS × LnS => u.1) (fun u : Int32 × SdS × LnS => (wSd cB cI cZ h ha0 u.2.1) ++ (wLn cB cI cZ k ka0 u.2.2)) (fun u : Int32 × SdS × LnS => [(h, .inr (3, [.ref ha0, .int u.2.1.2.1, .int u.2.1.2.2.1, .int u.2.1.2.2.2])), (ha0, .inl (cI, 400, .inl u.2.1.1)), (k, .inr (1, [.ref ka0, .int u.2.2.2])), (ka0, .inl (cB, 8000, .inl u.2.2.1))]) (wr := []) (krunV (As := [.int 80, .int 0, .ref k]) (rest := []) ⟨hx, hb, hml, hown, hts⟩ (c_X4_put l D cB cI cZ h ha0 k ka0 (n3a_0, n3a_1, n3a_2, n3a_3) (n3b_0, n3b_1) 80 0) (cwV 3 hts gX4_putIdle_X4_put rfl rfl rfl (by decide +kernel) ⟨Nat.le_of_ble_eq_true rfl, Nat.le_of_ble_eq_true rfl⟩) hE hK hP hD hS hA [0, 1, 2, 3] rfl (by decide) (ci := 3) (q0 := 0) rfl rfl rfl hl.1 rfl (Nat.le_of_ble_eq_true rfl) dX4_putIdle_41 ⟨Nat.zero_le _, Nat.zero_le _⟩) hP hD hS hA [0, 1, 2, 3] [] [0, 1, 2, 3] rfl rfl (by decide) (by decide) (fun _ => rfl) (by decide) (fun u hu_4 H locs hP hD hS => ?_)
      obtain ⟨r_4, ⟨n4a_0, n4a_1, n4a_2, n4a_3⟩, ⟨n4b_0, n4b_1⟩⟩ := u
      have hP : va_P D vwCl [(h, .inr (3, [.ref ha0, .int n4a_1, .int n4a_2, .int n4a_3])), (ha0, .inl (cI, 400, .inl n4a_0)), (k, .inr (1, [.ref ka0, .int n4b_1])), (ka0, .inl (cB, 8000, .inl n4b_0))] H := hP
      have hD : va_D A [(h, .inr (3, [.ref ha0, .int n4a_1, .int n4a_2, .int n4a_3])), (ha0, .inl (cI, 400, .inl n4a_0)), (k, .inr (1, [.ref ka0, .int n4b_1])), (ka0, .inl (cB, 8000, .inl n4b_0))] := hD
      refine W.eq (g2 := F0 m 44 ls [.int r_4]) rfl ?_
      refine lv_pop hx hb dX4_putIdle_44 rfl ?_
      refine lv_iconst (v := 1) hx hb dX4_putIdle_45 (by decide) ?_
      have hf : f_X4_putIdle (s_0, s_1, s_2, s_3) (l_0, l_1) = (1, (n4a_0, n4a_1, n4a_2, n4a_3), (n4b_0, n4b_1)) := by simp only [f_X4_putIdle, hu_3, hu_4, ↓if_neg c_1, ↓if_pos c_2]
      exact kretz hx hb hr hlocks hS hP hK hD dX4_putIdle_46 (by rfl) (congrArg (fun u : Int32 × SdS × LnS => u.1) hf).symm (congrArg (fun u : Int32 × SdS × LnS => (wSd cB cI cZ h ha0 u.2.1) ++ (wLn cB cI cZ k ka0 u.2.2)) hf).symm
    · refine lv_sipush (v := 197) hx hb dX4_putIdle_18 (by decide) ?_
      refine lv_goto (tgt := 26) hx hb dX4_putIdle_21 (by decide) ?_
      refine lv_istore_n (lv' := [(2, .int 197), (0, .ref h), (1, .ref k)]) hx hb dX4_putIdle_26 rfl hl (by decide) rfl (fun ls hl => ?_)
      refine lv_aload_n hx hb dX4_putIdle_27 rfl (lv_at hl 1 rfl) ?_
      refine lv_sipush (v := 188) hx hb dX4_putIdle_28 (by decide) ?_
      refine lv_iconst (v := 1) hx hb dX4_putIdle_31 (by decide) ?_
      refine lv_aload_n hx hb dX4_putIdle_32 rfl (lv_at hl 2 rfl) ?_
      refine kcalliU (f_X4_put 188 1 (s_0, s_1, s_2, s_3) (l_0, l_1)) (fun u : Int32 × SdS × LnS => u.1) (fun u : Int32 × SdS × LnS => (wSd cB cI cZ h ha0 u.2.1) ++ (wLn cB cI cZ k ka0 u.2.2)) (fun u : Int32 × SdS × LnS => [(h, .inr (3, [.ref ha0, .int u.2.1.2.1, .int u.2.1.2.2.1, .int u.2.1.2.2.2])), (ha0, .inl (cI, 400, .inl u.2.1.1)), (k, .inr (1, [.ref ka0, .int u.2.2.2])), (ka0, .inl (cB, 8000, .inl u.2.2.1))]) (wr := []) (krunV (As := [.int 188, .int 1, .ref k]) (rest := []) ⟨hx, hb, hml, hown, hts⟩ (c_X4_put l D cB cI cZ h ha0 k ka0 (s_0, s_1, s_2, s_3) (l_0, l_1) 188 1) (cwV 3 hts gX4_putIdle_X4_put rfl rfl rfl (by decide +kernel) ⟨Nat.le_of_ble_eq_true rfl, Nat.le_of_ble_eq_true rfl⟩) hE hK hP hD hS hA [0, 1, 2, 3] rfl (by decide) (ci := 3) (q0 := 0) rfl rfl rfl hl.1 rfl (Nat.le_of_ble_eq_true rfl) dX4_putIdle_33 ⟨Nat.zero_le _, Nat.zero_le _⟩) hP hD hS hA [0, 1, 2, 3] [] [0, 1, 2, 3] rfl rfl (by decide) (by decide) (fun _ => rfl) (by decide) (fun u hu_5 H locs hP hD hS => ?_)
      obtain ⟨r_5, ⟨n5a_0, n5a_1, n5a_2, n5a_3⟩, ⟨n5b_0, n5b_1⟩⟩ := u
      have hP : va_P D vwCl [(h, .inr (3, [.ref ha0, .int n5a_1, .int n5a_2, .int n5a_3])), (ha0, .inl (cI, 400, .inl n5a_0)), (k, .inr (1, [.ref ka0, .int n5b_1])), (ka0, .inl (cB, 8000, .inl n5b_0))] H := hP
      have hD : va_D A [(h, .inr (3, [.ref ha0, .int n5a_1, .int n5a_2, .int n5a_3])), (ha0, .inl (cI, 400, .inl n5a_0)), (k, .inr (1, [.ref ka0, .int n5b_1])), (ka0, .inl (cB, 8000, .inl n5b_0))] := hD
      refine W.eq (g2 := F0 m 36 ls [.int r_5]) rfl ?_
      refine lv_pop hx hb dX4_putIdle_36 rfl ?_
      refine lv_aload_n hx hb dX4_putIdle_37 rfl (lv_at hl 1 rfl) ?_
      refine lv_iload_n hx hb dX4_putIdle_38 rfl (lv_at hl 0 rfl) ?_
      refine lv_iconst (v := 0) hx hb dX4_putIdle_39 (by decide) ?_
      refine lv_aload_n hx hb dX4_putIdle_40 rfl (lv_at hl 2 rfl) ?_
      refine kcalliU (f_X4_put 197 0 (n5a_0, n5a_1, n5a_2, n5a_3) (n5b_0, n5b_1)) (fun u : Int32 × SdS × LnS => u.1) (fun u : Int32 × SdS × LnS => (wSd cB cI cZ h ha0 u.2.1) ++ (wLn cB cI cZ k ka0 u.2.2)) (fun u : Int32 × SdS × LnS => [(h, .inr (3, [.ref ha0, .int u.2.1.2.1, .int u.2.1.2.2.1, .int u.2.1.2.2.2])), (ha0, .inl (cI, 400, .inl u.2.1.1)), (k, .inr (1, [.ref ka0, .int u.2.2.2])), (ka0, .inl (cB, 8000, .inl u.2.2.1))]) (wr := []) (krunV (As := [.int 197, .int 0, .ref k]) (rest := []) ⟨hx, hb, hml, hown, hts⟩ (c_X4_put l D cB cI cZ h ha0 k ka0 (n5a_0, n5a_1, n5a_2, n5a_3) (n5b_0, n5b_1) 197 0) (cwV 3 hts gX4_putIdle_X4_put rfl rfl rfl (by decide +kernel) ⟨Nat.le_of_ble_eq_true rfl, Nat.le_of_ble_eq_true rfl⟩) hE hK hP hD hS hA [0, 1, 2, 3] rfl (by decide) (ci := 3) (q0 := 0) rfl rfl rfl hl.1 rfl (Nat.le_of_ble_eq_true rfl) dX4_putIdle_41 ⟨Nat.zero_le _, Nat.zero_le _⟩) hP hD hS hA [0, 1, 2, 3] [] [0, 1, 2, 3] rfl rfl (by decide) (by decide) (fun _ => rfl) (by decide) (fun u hu_6 H locs hP hD hS => ?_)
      obtain ⟨r_6, ⟨n6a_0, n6a_1, n6a_2, n6a_3⟩, ⟨n6b_0, n6b_1⟩⟩ := u
      have hP : va_P D vwCl [(h, .inr (3, [.ref ha0, .int n6a_1, .int n6a_2, .int n6a_3])), (ha0, .inl (cI, 400, .inl n6a_0)), (k, .inr (1, [.ref ka0, .int n6b_1])), (ka0, .inl (cB, 8000, .inl n6b_0))] H := hP
      have hD : va_D A [(h, .inr (3, [.ref ha0, .int n6a_1, .int n6a_2, .int n6a_3])), (ha0, .inl (cI, 400, .inl n6a_0)), (k, .inr (1, [.ref ka0, .int n6b_1])), (ka0, .inl (cB, 8000, .inl n6b_0))] := hD
      refine W.eq (g2 := F0 m 44 ls [.int r_6]) rfl ?_
      refine lv_pop hx hb dX4_putIdle_44 rfl ?_
      refine lv_iconst (v := 1) hx hb dX4_putIdle_45 (by decide) ?_
      have hf : f_X4_putIdle (s_0, s_1, s_2, s_3) (l_0, l_1) = (1, (n6a_0, n6a_1, n6a_2, n6a_3), (n6b_0, n6b_1)) := by simp only [f_X4_putIdle, hu_5, hu_6, ↓if_neg c_1, ↓if_neg c_2]
      exact kretz hx hb hr hlocks hS hP hK hD dX4_putIdle_46 (by rfl) (congrArg (fun u : Int32 × SdS × LnS => u.1) hf).symm (congrArg (fun u : Int32 × SdS × LnS => (wSd cB cI cZ h ha0 u.2.1) ++ (wLn cB cI cZ k ka0 u.2.2)) hf).symm
  · refine lv_iconst (v := 0) hx hb dX4_putIdle_9 (by decide) ?_
    have hf : f_X4_putIdle (s_0, s_1, s_2, s_3) (l_0, l_1) = (0, (s_0, s_1, s_2, s_3), (l_0, l_1)) := by simp only [f_X4_putIdle, ↓if_pos c_1]
    exact kretz hx hb hr hlocks hS hP hK hD dX4_putIdle_10 (by rfl) (congrArg (fun u : Int32 × SdS × LnS => u.1) hf).symm (congrArg (fun u : Int32 × SdS × LnS => (wSd cB cI cZ h ha0 u.2.1) ++ (wLn cB cI cZ k ka0 u.2.2)) hf).symm

abbrev rmX4_keepOnTape : Room := { frames := 0, cells := 0, slots := 0, locals := 0 }
def f_X4_keepOnTape (b : Int32) (S : SdS) : Int32 × SdS := match S with | (s_0, s_1, s_2, s_3) => (if b < 0 then (0, (s_0, s_1, s_2, s_3)) else (if (255 : Int32) < b then (0, (s_0, s_1, s_2, s_3)) else (if s_1 < 0 then (0, (s_0, s_1, s_2, s_3)) else (if s_1 < 400 then (1, ((upd s_0 (s_1).toNatClampNeg b), (s_1 + 1), s_2, s_3)) else (0, (s_0, s_1, s_2, s_3))))))
set_option maxHeartbeats 4000000 in
set_option maxRecDepth 100000 in
theorem c_X4_keepOnTape (l : Launch) (D : va_G) (cB cI cZ : ClassId) (h ha0 : Nat) (S : SdS) (b : Int32) : CtI l yX4_keepOnTape wsX4_keepOnTape rmX4_keepOnTape D (tyv cB cI cZ) [.ref h, .int b] (f_X4_keepOnTape b S).1 (wSd cB cI cZ h ha0 S) (wSd cB cI cZ h ha0 ((f_X4_keepOnTape b S).2)) := by
  obtain ⟨s_0, s_1, s_2, s_3⟩ := S
  refine CtI.of (cc := cX4_keepOnTape) (maxL := 2) (ret := (some .boolean)) (by decide +kernel) rfl (Nat.le_of_ble_eq_true rfl) ?_
  intro p e s m below meth c A ls hx hb hr hml hown hts hlocks hE hP hK hD hA hS hl
  have hown : s.vm.findClass RX4 = some m.cls := hown
  have hl : lv_has ls 2 [(0, .ref h), (1, .int b)] := hl
  have hP : va_P D vwCl [(h, .inr (3, [.ref ha0, .int s_1, .int s_2, .int s_3])), (ha0, .inl (cI, 400, .inl s_0))] s.heap := hP
  have hD : va_D A [(h, .inr (3, [.ref ha0, .int s_1, .int s_2, .int s_3])), (ha0, .inl (cI, 400, .inl s_0))] := hD
  have hiX4 : ∀ w ∈ wsX40, w ∈ wsX4_keepOnTape := by decide +kernel
  have k11 := hts (.fieldLink RX4 11 "CodedGroups$Sender" "tape" "[I") (by decide +kernel)
  have k15 := hts (.fieldLink RX4 15 "CodedGroups$Sender" "taped" "I") (by decide +kernel)
  refine lv_iload_n hx hb dX4_keepOnTape_0 rfl (lv_at hl 1 rfl) ?_
  refine lv_if_lt (tgt := 28) hx hb dX4_keepOnTape_1 (by decide) (fun c_1 => ?_) (fun c_1 => ?_)
  · refine lv_iconst (v := 0) hx hb dX4_keepOnTape_28 (by decide) ?_
    have hf : f_X4_keepOnTape b (s_0, s_1, s_2, s_3) = (0, (s_0, s_1, s_2, s_3)) := by simp only [f_X4_keepOnTape, ↓if_pos c_1]
    exact kretz hx hb hr hlocks hS hP hK hD dX4_keepOnTape_29 (by rfl) (congrArg (fun u : Int32 × SdS => u.1) hf).symm (congrArg (fun u : Int32 × SdS => wSd cB cI cZ h ha0 u.2) hf).symm
  · refine lv_iload_n hx hb dX4_keepOnTape_4 rfl (lv_at hl 1 rfl) ?_
    refine lv_sipush (v := 255) hx hb dX4_keepOnTape_5 (by decide) ?_
    refine lv_icmp_gt (tgt := 28) hx hb dX4_keepOnTape_8 (by decide) (fun c_2 => ?_) (fun c_2 => ?_)
    · refine lv_iconst (v := 0) hx hb dX4_keepOnTape_28 (by decide) ?_
      have hf : f_X4_keepOnTape b (s_0, s_1, s_2, s_3) = (0, (s_0, s_1, s_2, s_3)) := by simp only [f_X4_keepOnTape, ↓if_neg c_1, ↓if_pos c_2]
      exact kretz hx hb hr hlocks hS hP hK hD dX4_keepOnTape_29 (by rfl) (congrArg (fun u : Int32 × SdS => u.1) hf).symm (congrArg (fun u : Int32 × SdS => wSd cB cI cZ h ha0 u.2) hf).symm
    · refine lv_aload_n hx hb dX4_keepOnTape_11 rfl (lv_at hl 0 rfl) ?_
      refine va_get (D := D) (ci := 3) (v := .int s_1) (C := RX4) (T := TX4) (N := 4) hx hb hts hiX4 hown hK hP 0 rfl rfl 1 (by decide) k15 (fun _ h9 => h9) rfl dX4_keepOnTape_12 ?_
      refine lv_if_lt (tgt := 28) hx hb dX4_keepOnTape_15 (by decide) (fun c_3 => ?_) (fun c_3 => ?_)
      · refine lv_iconst (v := 0) hx hb dX4_keepOnTape_28 (by decide) ?_
        have hf : f_X4_keepOnTape b (s_0, s_1, s_2, s_3) = (0, (s_0, s_1, s_2, s_3)) := by simp only [f_X4_keepOnTape, ↓if_neg c_1, ↓if_neg c_2, ↓if_pos c_3]
        exact kretz hx hb hr hlocks hS hP hK hD dX4_keepOnTape_29 (by rfl) (congrArg (fun u : Int32 × SdS => u.1) hf).symm (congrArg (fun u : Int32 × SdS => wSd cB cI cZ h ha0 u.2) hf).symm
      · refine lv_aload_n hx hb dX4_keepOnTape_18 rfl (lv_at hl 0 rfl) ?_
        refine va_get (D := D) (ci := 3) (v := .int s_1) (C := RX4) (T := TX4) (N := 4) hx hb hts hiX4 hown hK hP 0 rfl rfl 1 (by decide) k15 (fun _ h9 => h9) rfl dX4_keepOnTape_19 ?_
        refine lv_sipush (v := 400) hx hb dX4_keepOnTape_22 (by decide) ?_
        refine lv_icmp_lt (tgt := 30) hx hb dX4_keepOnTape_25 (by decide) (fun c_4 => ?_) (fun c_4 => ?_)
        · refine lv_aload_n hx hb dX4_keepOnTape_30 rfl (lv_at hl 0 rfl) ?_
          refine va_get (D := D) (ci := 3) (v := .ref ha0) (C := RX4) (T := TX4) (N := 4) hx hb hts hiX4 hown hK hP 0 rfl rfl 0 (by decide) k11 (fun _ h9 => h9) rfl dX4_keepOnTape_31 ?_
          refine lv_aload_n hx hb dX4_keepOnTape_34 rfl (lv_at hl 0 rfl) ?_
          refine va_get (D := D) (ci := 3) (v := .int s_1) (C := RX4) (T := TX4) (N := 4) hx hb hts hiX4 hown hK hP 0 rfl rfl 1 (by decide) k15 (fun _ h9 => h9) rfl dX4_keepOnTape_35 ?_
          refine lv_iload_n hx hb dX4_keepOnTape_38 rfl (lv_at hl 1 rfl) ?_
          have h_5 : vp_in s_1 400 := vp_in_iff.mpr (show 0 ≤ (s_1 : Int32).toInt ∧ (s_1 : Int32).toInt < ((400 : Nat) : Int) from by have e_0 := i_nlt c_1; have e_1 := i_nlt c_2; have e_2 := i_nlt c_3; have e_3 := i_lt c_4; have z0 : (0 : Int32).toInt = 0 := rfl; have z255 : (255 : Int32).toInt = 255 := rfl; have z400 : (400 : Int32).toInt = 400 := rfl; omega)
          refine va_iast hx hb hK hP hD hS 1 1 rfl rfl h_5 dX4_keepOnTape_39 (fun H locs hP hD hS => ?_)
          have hP : va_P D vwCl [(h, .inr (3, [.ref ha0, .int s_1, .int s_2, .int s_3])), (ha0, .inl (cI, 400, .inl (upd s_0 (s_1).toNatClampNeg b)))] H := hP
          have hD : va_D A [(h, .inr (3, [.ref ha0, .int s_1, .int s_2, .int s_3])), (ha0, .inl (cI, 400, .inl (upd s_0 (s_1).toNatClampNeg b)))] := hD
          refine lv_aload_n hx hb dX4_keepOnTape_40 rfl (lv_at hl 0 rfl) ?_
          refine lv_dup hx hb dX4_keepOnTape_41 rfl ?_
          refine va_get (D := D) (ci := 3) (v := .int s_1) (C := RX4) (T := TX4) (N := 4) hx hb hts hiX4 hown hK hP 0 rfl rfl 1 (by decide) k15 (fun _ h9 => h9) rfl dX4_keepOnTape_42 ?_
          refine lv_iconst (v := 1) hx hb dX4_keepOnTape_45 (by decide) ?_
          refine lv_iadd hx hb dX4_keepOnTape_46 ?_
          refine va_put (D := D) (ci := 3) (v := .int (s_1 + 1)) (ty := .int) (C := RX4) (T := TX4) (N := 4) hx hb hts hiX4 tyX4 tyX4_ok nmX4 hown hK hP hD hS 0 rfl rfl 1 (by decide) k15 (fun _ h9 => h9) rfl (by decide +kernel) rfl rfl (Nat.le_of_ble_eq_true rfl) dX4_keepOnTape_47 (fun H locs hP hD hS => ?_)
          have hP : va_P D vwCl [(h, .inr (3, [.ref ha0, .int (s_1 + 1), .int s_2, .int s_3])), (ha0, .inl (cI, 400, .inl (upd s_0 (s_1).toNatClampNeg b)))] H := hP
          have hD : va_D A [(h, .inr (3, [.ref ha0, .int (s_1 + 1), .int s_2, .int s_3])), (ha0, .inl (cI, 400, .inl (upd s_0 (s_1).toNatClampNeg b)))] := hD
          refine lv_iconst (v := 1) hx hb dX4_keepOnTape_50 (by decide) ?_
          have hf : f_X4_keepOnTape b (s_0, s_1, s_2, s_3) = (1, ((upd s_0 (s_1).toNatClampNeg b), (s_1 + 1), s_2, s_3)) := by simp only [f_X4_keepOnTape, ↓if_neg c_1, ↓if_neg c_2, ↓if_neg c_3, ↓if_pos c_4]
          exact kretz hx hb hr hlocks hS hP hK hD dX4_keepOnTape_51 (by rfl) (congrArg (fun u : Int32 × SdS => u.1) hf).symm (congrArg (fun u : Int32 × SdS => wSd cB cI cZ h ha0 u.2) hf).symm
        · refine lv_iconst (v := 0) hx hb dX4_keepOnTape_28 (by decide) ?_
          have hf : f_X4_keepOnTape b (s_0, s_1, s_2, s_3) = (0, (s_0, s_1, s_2, s_3)) := by simp only [f_X4_keepOnTape, ↓if_neg c_1, ↓if_neg c_2, ↓if_neg c_3, ↓if_neg c_4]
          exact kretz hx hb hr hlocks hS hP hK hD dX4_keepOnTape_29 (by rfl) (congrArg (fun u : Int32 × SdS => u.1) hf).symm (congrArg (fun u : Int32 × SdS => wSd cB cI cZ h ha0 u.2) hf).symm

abbrev rmX4_putFrame : Room := { frames := 4, cells := 0, slots := 0, locals := 92 }
def lp_X4_putFrame_30 : Nat → Int32 → Int32 → SdS → LnS → (Int32 × SdS × LnS)
  | 0, _, _, (ls_0, ls_1, ls_2, ls_3), (ll_0, ll_1) => (0, (ls_0, ls_1, ls_2, ls_3), (ll_0, ll_1))
  | n + 1, v2, v3, (ls_0, ls_1, ls_2, ls_3), (ll_0, ll_1) => (if ls_1 ≤ v3 then (match f_X4_put 253 1 (ls_0, ls_1, ls_2, ls_3) (ll_0, ll_1) with | (r_2, (n2a_0, n2a_1, n2a_2, n2a_3), (n2b_0, n2b_1)) => (match f_X4_put 247 1 (n2a_0, n2a_1, n2a_2, n2a_3) (n2b_0, n2b_1) with | (r_3, (n3a_0, n3a_1, n3a_2, n3a_3), (n3b_0, n3b_1)) => (if (n3a_3 &&& 1) = 0 then (v2, (n3a_0, 0, n3a_2, n3a_3), (n3b_0, n3b_1)) else (match f_X4_put 247 1 (n3a_0, n3a_1, n3a_2, n3a_3) (n3b_0, n3b_1) with | (r_5, (n5a_0, n5a_1, n5a_2, n5a_3), (n5b_0, n5b_1)) => (v2, (n5a_0, 0, n5a_2, n5a_3), (n5b_0, n5b_1)))))) else (if (400 : Int32) ≤ v3 then (match f_X4_put 253 1 (ls_0, ls_1, ls_2, ls_3) (ll_0, ll_1) with | (r_7, (n7a_0, n7a_1, n7a_2, n7a_3), (n7b_0, n7b_1)) => (match f_X4_put 247 1 (n7a_0, n7a_1, n7a_2, n7a_3) (n7b_0, n7b_1) with | (r_8, (n8a_0, n8a_1, n8a_2, n8a_3), (n8b_0, n8b_1)) => (if (n8a_3 &&& 1) = 0 then (v2, (n8a_0, 0, n8a_2, n8a_3), (n8b_0, n8b_1)) else (match f_X4_put 247 1 (n8a_0, n8a_1, n8a_2, n8a_3) (n8b_0, n8b_1) with | (r_10, (n10a_0, n10a_1, n10a_2, n10a_3), (n10b_0, n10b_1)) => (v2, (n10a_0, 0, n10a_2, n10a_3), (n10b_0, n10b_1)))))) else (match f_X4_put ((ls_0 (v3).toNatClampNeg)) 0 (ls_0, ls_1, ls_2, ls_3) (ll_0, ll_1) with | (r_12, (n12a_0, n12a_1, n12a_2, n12a_3), (n12b_0, n12b_1)) => lp_X4_putFrame_30 n v2 ((v3 + 1)) (n12a_0, n12a_1, n12a_2, n12a_3) (n12b_0, n12b_1))))
set_option maxHeartbeats 4000000 in
set_option maxRecDepth 100000 in
theorem lq_X4_putFrame_30 (l : Launch) (D : va_G) (cB cI cZ : ClassId) (h ha0 k ka0 : Nat) {p : Program} {e : Env} {s : State} {m : MethodId} {args : Array Value} {below : List Frame} {meth : Method} {c : Code} {A : Nat → Prop} (hx : p.tables.exec = Jvm.exec) (hb : c.code = cX4_putFrame) (hr : meth.sig.returnType = (some .int)) (hml : c.maxLocals = 4) (hown : s.vm.findClass RX4 = some m.cls) (hts : ∀ w ∈ wsX4_putFrame, w.before args s = true) (hlocks : meth.locks = false) (hE : ev A s s.heap) (hK : va_K D vwCl (tyv cB cI cZ) s) (hA : ∀ q, s.heap.size ≤ q → A q) : ∀ (n : Nat) (v2 : Int32) (v3 : Int32) (ls_0 : Nat → Int32) (ls_1 : Int32) (ls_2 : Int32) (ls_3 : Int32) (ll_0 : Nat → Int32) (ll_1 : Int32), (0 ≤ v3.toInt ∧ v3.toInt ≤ 400 ∧ (400 : Int) < v3.toInt + n) → ∀ (H : Heap) (locs : List Loc), va_P D vwCl [(h, .inr (3, [.ref ha0, .int ls_1, .int ls_2, .int ls_3])), (ha0, .inl (cI, 400, .inl ls_0)), (k, .inr (1, [.ref ka0, .int ll_1])), (ka0, .inl (cB, 8000, .inl ll_0))] H → va_D A [(h, .inr (3, [.ref ha0, .int ls_1, .int ls_2, .int ls_3])), (ha0, .inl (cI, 400, .inl ls_0)), (k, .inr (1, [.ref ka0, .int ll_1])), (ka0, .inl (cB, 8000, .inl ll_0))] → va_S A s.heap H locs → ∀ (ls : Array Slot), lv_has ls 4 [(0, .ref h), (1, .ref k), (2, .int v2), (3, .int v3)] → W p l e rmX4_putFrame s m args below meth c H locs 0 0 (MQ below (kQi D (tyv cB cI cZ) A (lp_X4_putFrame_30 n v2 v3 (ls_0, ls_1, ls_2, ls_3) (ll_0, ll_1)).1 ((wSd cB cI cZ h ha0 ((lp_X4_putFrame_30 n v2 v3 (ls_0, ls_1, ls_2, ls_3) (ll_0, ll_1)).2.1)) ++ (wLn cB cI cZ k ka0 ((lp_X4_putFrame_30 n v2 v3 (ls_0, ls_1, ls_2, ls_3) (ll_0, ll_1)).2.2)))) args s 0 0 A) (F0 m 30 ls []) := by
  have hiX4 : ∀ w ∈ wsX40, w ∈ wsX4_putFrame := by decide +kernel
  have k11 := hts (.fieldLink RX4 11 "CodedGroups$Sender" "tape" "[I") (by decide +kernel)
  have k15 := hts (.fieldLink RX4 15 "CodedGroups$Sender" "taped" "I") (by decide +kernel)
  have k22 := hts (.fieldLink RX4 22 "CodedGroups$Sender" "sent" "I") (by decide +kernel)
  intro n
  induction n with
  | zero => intro v2 v3 ls_0 ls_1 ls_2 ls_3 ll_0 ll_1 hm; omega
  | succ n ih =>
    intro v2 v3 ls_0 ls_1 ls_2 ls_3 ll_0 ll_1 hm H locs hP hD hS ls hl
    refine lv_iload_n hx hb dX4_putFrame_30 rfl (lv_at hl 3 rfl) ?_
    refine lv_aload_n hx hb dX4_putFrame_31 rfl (lv_at hl 0 rfl) ?_
    refine va_get (D := D) (ci := 3) (v := .int ls_1) (C := RX4) (T := TX4) (N := 4) hx hb hts hiX4 hown hK hP 0 rfl rfl 1 (by decide) k15 (fun _ h9 => h9) rfl dX4_putFrame_32 ?_
    refine lv_icmp_ge (tgt := 64) hx hb dX4_putFrame_35 (by decide) (fun c_1 => ?_) (fun c_1 => ?_)
    · refine lv_aload_n hx hb dX4_putFrame_64 rfl (lv_at hl 0 rfl) ?_
      refine lv_sipush (v := 253) hx hb dX4_putFrame_65 (by decide) ?_
      refine lv_iconst (v := 1) hx hb dX4_putFrame_68 (by decide) ?_
      refine lv_aload_n hx hb dX4_putFrame_69 rfl (lv_at hl 1 rfl) ?_
      refine kcalliU (f_X4_put 253 1 (ls_0, ls_1, ls_2, ls_3) (ll_0, ll_1)) (fun u : Int32 × SdS × LnS => u.1) (fun u : Int32 × SdS × LnS => (wSd cB cI cZ h ha0 u.2.1) ++ (wLn cB cI cZ k ka0 u.2.2)) (fun u : Int32 × SdS × LnS => [(h, .inr (3, [.ref ha0, .int u.2.1.2.1, .int u.2.1.2.2.1, .int u.2.1.2.2.2])), (ha0, .inl (cI, 400, .inl u.2.1.1)), (k, .inr (1, [.ref ka0, .int u.2.2.2])), (ka0, .inl (cB, 8000, .inl u.2.2.1))]) (wr := []) (krunV (As := [.int 253, .int 1, .ref k]) (rest := []) ⟨hx, hb, hml, hown, hts⟩ (c_X4_put l D cB cI cZ h ha0 k ka0 (ls_0, ls_1, ls_2, ls_3) (ll_0, ll_1) 253 1) (cwV 3 hts gX4_putFrame_X4_put rfl rfl rfl (by decide +kernel) ⟨Nat.le_of_ble_eq_true rfl, Nat.le_of_ble_eq_true rfl⟩) hE hK hP hD hS hA [0, 1, 2, 3] rfl (by decide) (ci := 3) (q0 := 0) rfl rfl rfl hl.1 rfl (Nat.le_of_ble_eq_true rfl) dX4_putFrame_70 ⟨Nat.zero_le _, Nat.zero_le _⟩) hP hD hS hA [0, 1, 2, 3] [] [0, 1, 2, 3] rfl rfl (by decide) (by decide) (fun _ => rfl) (by decide) (fun u hu_2 H locs hP hD hS => ?_)
      obtain ⟨r_2, ⟨n2a_0, n2a_1, n2a_2, n2a_3⟩, ⟨n2b_0, n2b_1⟩⟩ := u
      have hP : va_P D vwCl [(h, .inr (3, [.ref ha0, .int n2a_1, .int n2a_2, .int n2a_3])), (ha0, .inl (cI, 400, .inl n2a_0)), (k, .inr (1, [.ref ka0, .int n2b_1])), (ka0, .inl (cB, 8000, .inl n2b_0))] H := hP
      have hD : va_D A [(h, .inr (3, [.ref ha0, .int n2a_1, .int n2a_2, .int n2a_3])), (ha0, .inl (cI, 400, .inl n2a_0)), (k, .inr (1, [.ref ka0, .int n2b_1])), (ka0, .inl (cB, 8000, .inl n2b_0))] := hD
      refine W.eq (g2 := F0 m 73 ls [.int r_2]) rfl ?_
      refine lv_pop hx hb dX4_putFrame_73 rfl ?_
      refine lv_aload_n hx hb dX4_putFrame_74 rfl (lv_at hl 0 rfl) ?_
      refine lv_sipush (v := 247) hx hb dX4_putFrame_75 (by decide) ?_
      refine lv_iconst (v := 1) hx hb dX4_putFrame_78 (by decide) ?_
      refine lv_aload_n hx hb dX4_putFrame_79 rfl (lv_at hl 1 rfl) ?_
      refine kcalliU (f_X4_put 247 1 (n2a_0, n2a_1, n2a_2, n2a_3) (n2b_0, n2b_1)) (fun u : Int32 × SdS × LnS => u.1) (fun u : Int32 × SdS × LnS => (wSd cB cI cZ h ha0 u.2.1) ++ (wLn cB cI cZ k ka0 u.2.2)) (fun u : Int32 × SdS × LnS => [(h, .inr (3, [.ref ha0, .int u.2.1.2.1, .int u.2.1.2.2.1, .int u.2.1.2.2.2])), (ha0, .inl (cI, 400, .inl u.2.1.1)), (k, .inr (1, [.ref ka0, .int u.2.2.2])), (ka0, .inl (cB, 8000, .inl u.2.2.1))]) (wr := []) (krunV (As := [.int 247, .int 1, .ref k]) (rest := []) ⟨hx, hb, hml, hown, hts⟩ (c_X4_put l D cB cI cZ h ha0 k ka0 (n2a_0, n2a_1, n2a_2, n2a_3) (n2b_0, n2b_1) 247 1) (cwV 3 hts gX4_putFrame_X4_put rfl rfl rfl (by decide +kernel) ⟨Nat.le_of_ble_eq_true rfl, Nat.le_of_ble_eq_true rfl⟩) hE hK hP hD hS hA [0, 1, 2, 3] rfl (by decide) (ci := 3) (q0 := 0) rfl rfl rfl hl.1 rfl (Nat.le_of_ble_eq_true rfl) dX4_putFrame_80 ⟨Nat.zero_le _, Nat.zero_le _⟩) hP hD hS hA [0, 1, 2, 3] [] [0, 1, 2, 3] rfl rfl (by decide) (by decide) (fun _ => rfl) (by decide) (fun u hu_3 H locs hP hD hS => ?_)
      obtain ⟨r_3, ⟨n3a_0, n3a_1, n3a_2, n3a_3⟩, ⟨n3b_0, n3b_1⟩⟩ := u
      have hP : va_P D vwCl [(h, .inr (3, [.ref ha0, .int n3a_1, .int n3a_2, .int n3a_3])), (ha0, .inl (cI, 400, .inl n3a_0)), (k, .inr (1, [.ref ka0, .int n3b_1])), (ka0, .inl (cB, 8000, .inl n3b_0))] H := hP
      have hD : va_D A [(h, .inr (3, [.ref ha0, .int n3a_1, .int n3a_2, .int n3a_3])), (ha0, .inl (cI, 400, .inl n3a_0)), (k, .inr (1, [.ref ka0, .int n3b_1])), (ka0, .inl (cB, 8000, .inl n3b_0))] := hD
      refine W.eq (g2 := F0 m 83 ls [.int r_3]) rfl ?_
      refine lv_pop hx hb dX4_putFrame_83 rfl ?_
      refine lv_aload_n hx hb dX4_putFrame_84 rfl (lv_at hl 0 rfl) ?_
      refine va_get (D := D) (ci := 3) (v := .int n3a_3) (C := RX4) (T := TX4) (N := 4) hx hb hts hiX4 hown hK hP 0 rfl rfl 3 (by decide) k22 (fun _ h9 => h9) rfl dX4_putFrame_85 ?_
      refine lv_iconst (v := 1) hx hb dX4_putFrame_88 (by decide) ?_
      refine lv_iand hx hb dX4_putFrame_89 ?_
      refine lv_if_eq (tgt := 103) hx hb dX4_putFrame_90 (by decide) (fun c_4 => ?_) (fun c_4 => ?_)
      · refine lv_aload_n hx hb dX4_putFrame_103 rfl (lv_at hl 0 rfl) ?_
        refine lv_iconst (v := 0) hx hb dX4_putFrame_104 (by decide) ?_
        refine va_put (D := D) (ci := 3) (v := .int 0) (ty := .int) (C := RX4) (T := TX4) (N := 4) hx hb hts hiX4 tyX4 tyX4_ok nmX4 hown hK hP hD hS 0 rfl rfl 1 (by decide) k15 (fun _ h9 => h9) rfl (by decide +kernel) rfl rfl (Nat.le_of_ble_eq_true rfl) dX4_putFrame_105 (fun H locs hP hD hS => ?_)
        have hP : va_P D vwCl [(h, .inr (3, [.ref ha0, .int 0, .int n3a_2, .int n3a_3])), (ha0, .inl (cI, 400, .inl n3a_0)), (k, .inr (1, [.ref ka0, .int n3b_1])), (ka0, .inl (cB, 8000, .inl n3b_0))] H := hP
        have hD : va_D A [(h, .inr (3, [.ref ha0, .int 0, .int n3a_2, .int n3a_3])), (ha0, .inl (cI, 400, .inl n3a_0)), (k, .inr (1, [.ref ka0, .int n3b_1])), (ka0, .inl (cB, 8000, .inl n3b_0))] := hD
        refine lv_iload_n hx hb dX4_putFrame_108 rfl (lv_at hl 2 rfl) ?_
        have hf : lp_X4_putFrame_30 (n + 1) v2 v3 (ls_0, ls_1, ls_2, ls_3) (ll_0, ll_1) = (v2, (n3a_0, 0, n3a_2, n3a_3), (n3b_0, n3b_1)) := by simp only [lp_X4_putFrame_30, hu_2, hu_3, ↓if_pos c_1, ↓if_pos c_4]
        exact kreti hx hb hr hlocks hS hP hK hD dX4_putFrame_109 (congrArg (fun u : Int32 × SdS × LnS => u.1) hf).symm (congrArg (fun u : Int32 × SdS × LnS => (wSd cB cI cZ h ha0 u.2.1) ++ (wLn cB cI cZ k ka0 u.2.2)) hf).symm
      · refine lv_aload_n hx hb dX4_putFrame_93 rfl (lv_at hl 0 rfl) ?_
        refine lv_sipush (v := 247) hx hb dX4_putFrame_94 (by decide) ?_
        refine lv_iconst (v := 1) hx hb dX4_putFrame_97 (by decide) ?_
        refine lv_aload_n hx hb dX4_putFrame_98 rfl (lv_at hl 1 rfl) ?_
        refine kcalliU (f_X4_put 247 1 (n3a_0, n3a_1, n3a_2, n3a_3) (n3b_0, n3b_1)) (fun u : Int32 × SdS × LnS => u.1) (fun u : Int32 × SdS × LnS => (wSd cB cI cZ h ha0 u.2.1) ++ (wLn cB cI cZ k ka0 u.2.2)) (fun u : Int32 × SdS × LnS => [(h, .inr (3, [.ref ha0, .int u.2.1.2.1, .int u.2.1.2.2.1, .int u.2.1.2.2.2])), (ha0, .inl (cI, 400, .inl u.2.1.1)), (k, .inr (1, [.ref ka0, .int u.2.2.2])), (ka0, .inl (cB, 8000, .inl u.2.2.1))]) (wr := []) (krunV (As := [.int 247, .int 1, .ref k]) (rest := []) ⟨hx, hb, hml, hown, hts⟩ (c_X4_put l D cB cI cZ h ha0 k ka0 (n3a_0, n3a_1, n3a_2, n3a_3) (n3b_0, n3b_1) 247 1) (cwV 3 hts gX4_putFrame_X4_put rfl rfl rfl (by decide +kernel) ⟨Nat.le_of_ble_eq_true rfl, Nat.le_of_ble_eq_true rfl⟩) hE hK hP hD hS hA [0, 1, 2, 3] rfl (by decide) (ci := 3) (q0 := 0) rfl rfl rfl hl.1 rfl (Nat.le_of_ble_eq_true rfl) dX4_putFrame_99 ⟨Nat.zero_le _, Nat.zero_le _⟩) hP hD hS hA [0, 1, 2, 3] [] [0, 1, 2, 3] rfl rfl (by decide) (by decide) (fun _ => rfl) (by decide) (fun u hu_5 H locs hP hD hS => ?_)
        obtain ⟨r_5, ⟨n5a_0, n5a_1, n5a_2, n5a_3⟩, ⟨n5b_0, n5b_1⟩⟩ := u
        have hP : va_P D vwCl [(h, .inr (3, [.ref ha0, .int n5a_1, .int n5a_2, .int n5a_3])), (ha0, .inl (cI, 400, .inl n5a_0)), (k, .inr (1, [.ref ka0, .int n5b_1])), (ka0, .inl (cB, 8000, .inl n5b_0))] H := hP
        have hD : va_D A [(h, .inr (3, [.ref ha0, .int n5a_1, .int n5a_2, .int n5a_3])), (ha0, .inl (cI, 400, .inl n5a_0)), (k, .inr (1, [.ref ka0, .int n5b_1])), (ka0, .inl (cB, 8000, .inl n5b_0))] := hD
        refine W.eq (g2 := F0 m 102 ls [.int r_5]) rfl ?_
        refine lv_pop hx hb dX4_putFrame_102 rfl ?_
        refine lv_aload_n hx hb dX4_putFrame_103 rfl (lv_at hl 0 rfl) ?_
        refine lv_iconst (v := 0) hx hb dX4_putFrame_104 (by decide) ?_
        refine va_put (D := D) (ci := 3) (v := .int 0) (ty := .int) (C := RX4) (T := TX4) (N := 4) hx hb hts hiX4 tyX4 tyX4_ok nmX4 hown hK hP hD hS 0 rfl rfl 1 (by decide) k15 (fun _ h9 => h9) rfl (by decide +kernel) rfl rfl (Nat.le_of_ble_eq_true rfl) dX4_putFrame_105 (fun H locs hP hD hS => ?_)
        have hP : va_P D vwCl [(h, .inr (3, [.ref ha0, .int 0, .int n5a_2, .int n5a_3])), (ha0, .inl (cI, 400, .inl n5a_0)), (k, .inr (1, [.ref ka0, .int n5b_1])), (ka0, .inl (cB, 8000, .inl n5b_0))] H := hP
        have hD : va_D A [(h, .inr (3, [.ref ha0, .int 0, .int n5a_2, .int n5a_3])), (ha0, .inl (cI, 400, .inl n5a_0)), (k, .inr (1, [.ref ka0, .int n5b_1])), (ka0, .inl (cB, 8000, .inl n5b_0))] := hD
        refine lv_iload_n hx hb dX4_putFrame_108 rfl (lv_at hl 2 rfl) ?_
        have hf : lp_X4_putFrame_30 (n + 1) v2 v3 (ls_0, ls_1, ls_2, ls_3) (ll_0, ll_1) = (v2, (n5a_0, 0, n5a_2, n5a_3), (n5b_0, n5b_1)) := by simp only [lp_X4_putFrame_30, hu_2, hu_3, hu_5, ↓if_pos c_1, ↓if_neg c_4]
        exact kreti hx hb hr hlocks hS hP hK hD dX4_putFrame_109 (congrArg (fun u : Int32 × SdS × LnS => u.1) hf).symm (congrArg (fun u : Int32 × SdS × LnS => (wSd cB cI cZ h ha0 u.2.1) ++ (wLn cB cI cZ k ka0 u.2.2)) hf).symm
    · refine lv_iload_n hx hb dX4_putFrame_38 rfl (lv_at hl 3 rfl) ?_
      refine lv_sipush (v := 400) hx hb dX4_putFrame_39 (by decide) ?_
      refine lv_icmp_ge (tgt := 64) hx hb dX4_putFrame_42 (by decide) (fun c_6 => ?_) (fun c_6 => ?_)
      · refine lv_aload_n hx hb dX4_putFrame_64 rfl (lv_at hl 0 rfl) ?_
        refine lv_sipush (v := 253) hx hb dX4_putFrame_65 (by decide) ?_
        refine lv_iconst (v := 1) hx hb dX4_putFrame_68 (by decide) ?_
        refine lv_aload_n hx hb dX4_putFrame_69 rfl (lv_at hl 1 rfl) ?_
        refine kcalliU (f_X4_put 253 1 (ls_0, ls_1, ls_2, ls_3) (ll_0, ll_1)) (fun u : Int32 × SdS × LnS => u.1) (fun u : Int32 × SdS × LnS => (wSd cB cI cZ h ha0 u.2.1) ++ (wLn cB cI cZ k ka0 u.2.2)) (fun u : Int32 × SdS × LnS => [(h, .inr (3, [.ref ha0, .int u.2.1.2.1, .int u.2.1.2.2.1, .int u.2.1.2.2.2])), (ha0, .inl (cI, 400, .inl u.2.1.1)), (k, .inr (1, [.ref ka0, .int u.2.2.2])), (ka0, .inl (cB, 8000, .inl u.2.2.1))]) (wr := []) (krunV (As := [.int 253, .int 1, .ref k]) (rest := []) ⟨hx, hb, hml, hown, hts⟩ (c_X4_put l D cB cI cZ h ha0 k ka0 (ls_0, ls_1, ls_2, ls_3) (ll_0, ll_1) 253 1) (cwV 3 hts gX4_putFrame_X4_put rfl rfl rfl (by decide +kernel) ⟨Nat.le_of_ble_eq_true rfl, Nat.le_of_ble_eq_true rfl⟩) hE hK hP hD hS hA [0, 1, 2, 3] rfl (by decide) (ci := 3) (q0 := 0) rfl rfl rfl hl.1 rfl (Nat.le_of_ble_eq_true rfl) dX4_putFrame_70 ⟨Nat.zero_le _, Nat.zero_le _⟩) hP hD hS hA [0, 1, 2, 3] [] [0, 1, 2, 3] rfl rfl (by decide) (by decide) (fun _ => rfl) (by decide) (fun u hu_7 H locs hP hD hS => ?_)
        obtain ⟨r_7, ⟨n7a_0, n7a_1, n7a_2, n7a_3⟩, ⟨n7b_0, n7b_1⟩⟩ := u
        have hP : va_P D vwCl [(h, .inr (3, [.ref ha0, .int n7a_1, .int n7a_2, .int n7a_3])), (ha0, .inl (cI, 400, .inl n7a_0)), (k, .inr (1, [.ref ka0, .int n7b_1])), (ka0, .inl (cB, 8000, .inl n7b_0))] H := hP
        have hD : va_D A [(h, .inr (3, [.ref ha0, .int n7a_1, .int n7a_2, .int n7a_3])), (ha0, .inl (cI, 400, .inl n7a_0)), (k, .inr (1, [.ref ka0, .int n7b_1])), (ka0, .inl (cB, 8000, .inl n7b_0))] := hD
        refine W.eq (g2 := F0 m 73 ls [.int r_7]) rfl ?_
        refine lv_pop hx hb dX4_putFrame_73 rfl ?_
        refine lv_aload_n hx hb dX4_putFrame_74 rfl (lv_at hl 0 rfl) ?_
        refine lv_sipush (v := 247) hx hb dX4_putFrame_75 (by decide) ?_
        refine lv_iconst (v := 1) hx hb dX4_putFrame_78 (by decide) ?_
        refine lv_aload_n hx hb dX4_putFrame_79 rfl (lv_at hl 1 rfl) ?_
        refine kcalliU (f_X4_put 247 1 (n7a_0, n7a_1, n7a_2, n7a_3) (n7b_0, n7b_1)) (fun u : Int32 × SdS × LnS => u.1) (fun u : Int32 × SdS × LnS => (wSd cB cI cZ h ha0 u.2.1) ++ (wLn cB cI cZ k ka0 u.2.2)) (fun u : Int32 × SdS × LnS => [(h, .inr (3, [.ref ha0, .int u.2.1.2.1, .int u.2.1.2.2.1, .int u.2.1.2.2.2])), (ha0, .inl (cI, 400, .inl u.2.1.1)), (k, .inr (1, [.ref ka0, .int u.2.2.2])), (ka0, .inl (cB, 8000, .inl u.2.2.1))]) (wr := []) (krunV (As := [.int 247, .int 1, .ref k]) (rest := []) ⟨hx, hb, hml, hown, hts⟩ (c_X4_put l D cB cI cZ h ha0 k ka0 (n7a_0, n7a_1, n7a_2, n7a_3) (n7b_0, n7b_1) 247 1) (cwV 3 hts gX4_putFrame_X4_put rfl rfl rfl (by decide +kernel) ⟨Nat.le_of_ble_eq_true rfl, Nat.le_of_ble_eq_true rfl⟩) hE hK hP hD hS hA [0, 1, 2, 3] rfl (by decide) (ci := 3) (q0 := 0) rfl rfl rfl hl.1 rfl (Nat.le_of_ble_eq_true rfl) dX4_putFrame_80 ⟨Nat.zero_le _, Nat.zero_le _⟩) hP hD hS hA [0, 1, 2, 3] [] [0, 1, 2, 3] rfl rfl (by decide) (by decide) (fun _ => rfl) (by decide) (fun u hu_8 H locs hP hD hS => ?_)
        obtain ⟨r_8, ⟨n8a_0, n8a_1, n8a_2, n8a_3⟩, ⟨n8b_0, n8b_1⟩⟩ := u
        have hP : va_P D vwCl [(h, .inr (3, [.ref ha0, .int n8a_1, .int n8a_2, .int n8a_3])), (ha0, .inl (cI, 400, .inl n8a_0)), (k, .inr (1, [.ref ka0, .int n8b_1])), (ka0, .inl (cB, 8000, .inl n8b_0))] H := hP
        have hD : va_D A [(h, .inr (3, [.ref ha0, .int n8a_1, .int n8a_2, .int n8a_3])), (ha0, .inl (cI, 400, .inl n8a_0)), (k, .inr (1, [.ref ka0, .int n8b_1])), (ka0, .inl (cB, 8000, .inl n8b_0))] := hD
        refine W.eq (g2 := F0 m 83 ls [.int r_8]) rfl ?_
        refine lv_pop hx hb dX4_putFrame_83 rfl ?_
        refine lv_aload_n hx hb dX4_putFrame_84 rfl (lv_at hl 0 rfl) ?_
        refine va_get (D := D) (ci := 3) (v := .int n8a_3) (C := RX4) (T := TX4) (N := 4) hx hb hts hiX4 hown hK hP 0 rfl rfl 3 (by decide) k22 (fun _ h9 => h9) rfl dX4_putFrame_85 ?_
        refine lv_iconst (v := 1) hx hb dX4_putFrame_88 (by decide) ?_
        refine lv_iand hx hb dX4_putFrame_89 ?_
        refine lv_if_eq (tgt := 103) hx hb dX4_putFrame_90 (by decide) (fun c_9 => ?_) (fun c_9 => ?_)
        · refine lv_aload_n hx hb dX4_putFrame_103 rfl (lv_at hl 0 rfl) ?_
          refine lv_iconst (v := 0) hx hb dX4_putFrame_104 (by decide) ?_
          refine va_put (D := D) (ci := 3) (v := .int 0) (ty := .int) (C := RX4) (T := TX4) (N := 4) hx hb hts hiX4 tyX4 tyX4_ok nmX4 hown hK hP hD hS 0 rfl rfl 1 (by decide) k15 (fun _ h9 => h9) rfl (by decide +kernel) rfl rfl (Nat.le_of_ble_eq_true rfl) dX4_putFrame_105 (fun H locs hP hD hS => ?_)
          have hP : va_P D vwCl [(h, .inr (3, [.ref ha0, .int 0, .int n8a_2, .int n8a_3])), (ha0, .inl (cI, 400, .inl n8a_0)), (k, .inr (1, [.ref ka0, .int n8b_1])), (ka0, .inl (cB, 8000, .inl n8b_0))] H := hP
          have hD : va_D A [(h, .inr (3, [.ref ha0, .int 0, .int n8a_2, .int n8a_3])), (ha0, .inl (cI, 400, .inl n8a_0)), (k, .inr (1, [.ref ka0, .int n8b_1])), (ka0, .inl (cB, 8000, .inl n8b_0))] := hD
          refine lv_iload_n hx hb dX4_putFrame_108 rfl (lv_at hl 2 rfl) ?_
          have hf : lp_X4_putFrame_30 (n + 1) v2 v3 (ls_0, ls_1, ls_2, ls_3) (ll_0, ll_1) = (v2, (n8a_0, 0, n8a_2, n8a_3), (n8b_0, n8b_1)) := by simp only [lp_X4_putFrame_30, hu_7, hu_8, ↓if_neg c_1, ↓if_pos c_6, ↓if_pos c_9]
          exact kreti hx hb hr hlocks hS hP hK hD dX4_putFrame_109 (congrArg (fun u : Int32 × SdS × LnS => u.1) hf).symm (congrArg (fun u : Int32 × SdS × LnS => (wSd cB cI cZ h ha0 u.2.1) ++ (wLn cB cI cZ k ka0 u.2.2)) hf).symm
        · refine lv_aload_n hx hb dX4_putFrame_93 rfl (lv_at hl 0 rfl) ?_
          refine lv_sipush (v := 247) hx hb dX4_putFrame_94 (by decide) ?_
          refine lv_iconst (v := 1) hx hb dX4_putFrame_97 (by decide) ?_
          refine lv_aload_n hx hb dX4_putFrame_98 rfl (lv_at hl 1 rfl) ?_
          refine kcalliU (f_X4_put 247 1 (n8a_0, n8a_1, n8a_2, n8a_3) (n8b_0, n8b_1)) (fun u : Int32 × SdS × LnS => u.1) (fun u : Int32 × SdS × LnS => (wSd cB cI cZ h ha0 u.2.1) ++ (wLn cB cI cZ k ka0 u.2.2)) (fun u : Int32 × SdS × LnS => [(h, .inr (3, [.ref ha0, .int u.2.1.2.1, .int u.2.1.2.2.1, .int u.2.1.2.2.2])), (ha0, .inl (cI, 400, .inl u.2.1.1)), (k, .inr (1, [.ref ka0, .int u.2.2.2])), (ka0, .inl (cB, 8000, .inl u.2.2.1))]) (wr := []) (krunV (As := [.int 247, .int 1, .ref k]) (rest := []) ⟨hx, hb, hml, hown, hts⟩ (c_X4_put l D cB cI cZ h ha0 k ka0 (n8a_0, n8a_1, n8a_2, n8a_3) (n8b_0, n8b_1) 247 1) (cwV 3 hts gX4_putFrame_X4_put rfl rfl rfl (by decide +kernel) ⟨Nat.le_of_ble_eq_true rfl, Nat.le_of_ble_eq_true rfl⟩) hE hK hP hD hS hA [0, 1, 2, 3] rfl (by decide) (ci := 3) (q0 := 0) rfl rfl rfl hl.1 rfl (Nat.le_of_ble_eq_true rfl) dX4_putFrame_99 ⟨Nat.zero_le _, Nat.zero_le _⟩) hP hD hS hA [0, 1, 2, 3] [] [0, 1, 2, 3] rfl rfl (by decide) (by decide) (fun _ => rfl) (by decide) (fun u hu_10 H locs hP hD hS => ?_)
          obtain ⟨r_10, ⟨n10a_0, n10a_1, n10a_2, n10a_3⟩, ⟨n10b_0, n10b_1⟩⟩ := u
          have hP : va_P D vwCl [(h, .inr (3, [.ref ha0, .int n10a_1, .int n10a_2, .int n10a_3])), (ha0, .inl (cI, 400, .inl n10a_0)), (k, .inr (1, [.ref ka0, .int n10b_1])), (ka0, .inl (cB, 8000, .inl n10b_0))] H := hP
          have hD : va_D A [(h, .inr (3, [.ref ha0, .int n10a_1, .int n10a_2, .int n10a_3])), (ha0, .inl (cI, 400, .inl n10a_0)), (k, .inr (1, [.ref ka0, .int n10b_1])), (ka0, .inl (cB, 8000, .inl n10b_0))] := hD
          refine W.eq (g2 := F0 m 102 ls [.int r_10]) rfl ?_
          refine lv_pop hx hb dX4_putFrame_102 rfl ?_
          refine lv_aload_n hx hb dX4_putFrame_103 rfl (lv_at hl 0 rfl) ?_
          refine lv_iconst (v := 0) hx hb dX4_putFrame_104 (by decide) ?_
          refine va_put (D := D) (ci := 3) (v := .int 0) (ty := .int) (C := RX4) (T := TX4) (N := 4) hx hb hts hiX4 tyX4 tyX4_ok nmX4 hown hK hP hD hS 0 rfl rfl 1 (by decide) k15 (fun _ h9 => h9) rfl (by decide +kernel) rfl rfl (Nat.le_of_ble_eq_true rfl) dX4_putFrame_105 (fun H locs hP hD hS => ?_)
          have hP : va_P D vwCl [(h, .inr (3, [.ref ha0, .int 0, .int n10a_2, .int n10a_3])), (ha0, .inl (cI, 400, .inl n10a_0)), (k, .inr (1, [.ref ka0, .int n10b_1])), (ka0, .inl (cB, 8000, .inl n10b_0))] H := hP
          have hD : va_D A [(h, .inr (3, [.ref ha0, .int 0, .int n10a_2, .int n10a_3])), (ha0, .inl (cI, 400, .inl n10a_0)), (k, .inr (1, [.ref ka0, .int n10b_1])), (ka0, .inl (cB, 8000, .inl n10b_0))] := hD
          refine lv_iload_n hx hb dX4_putFrame_108 rfl (lv_at hl 2 rfl) ?_
          have hf : lp_X4_putFrame_30 (n + 1) v2 v3 (ls_0, ls_1, ls_2, ls_3) (ll_0, ll_1) = (v2, (n10a_0, 0, n10a_2, n10a_3), (n10b_0, n10b_1)) := by simp only [lp_X4_putFrame_30, hu_7, hu_8, hu_10, ↓if_neg c_1, ↓if_pos c_6, ↓if_neg c_9]
          exact kreti hx hb hr hlocks hS hP hK hD dX4_putFrame_109 (congrArg (fun u : Int32 × SdS × LnS => u.1) hf).symm (congrArg (fun u : Int32 × SdS × LnS => (wSd cB cI cZ h ha0 u.2.1) ++ (wLn cB cI cZ k ka0 u.2.2)) hf).symm
      · refine lv_aload_n hx hb dX4_putFrame_45 rfl (lv_at hl 0 rfl) ?_
        refine lv_aload_n hx hb dX4_putFrame_46 rfl (lv_at hl 0 rfl) ?_
        refine va_get (D := D) (ci := 3) (v := .ref ha0) (C := RX4) (T := TX4) (N := 4) hx hb hts hiX4 hown hK hP 0 rfl rfl 0 (by decide) k11 (fun _ h9 => h9) rfl dX4_putFrame_47 ?_
        refine lv_iload_n hx hb dX4_putFrame_50 rfl (lv_at hl 3 rfl) ?_
        have h_11 : vp_in v3 400 := vp_in_iff.mpr (show 0 ≤ (v3 : Int32).toInt ∧ (v3 : Int32).toInt < ((400 : Nat) : Int) from by have e_0 := i_nle c_1; have e_1 := i_nle c_6; have z400 : (400 : Int32).toInt = 400 := rfl; omega)
        refine va_iald hx hb hK hP 1 1 rfl rfl h_11 dX4_putFrame_51 ?_
        refine lv_iconst (v := 0) hx hb dX4_putFrame_52 (by decide) ?_
        refine lv_aload_n hx hb dX4_putFrame_53 rfl (lv_at hl 1 rfl) ?_
        refine kcalliU (f_X4_put ((ls_0 (v3).toNatClampNeg)) 0 (ls_0, ls_1, ls_2, ls_3) (ll_0, ll_1)) (fun u : Int32 × SdS × LnS => u.1) (fun u : Int32 × SdS × LnS => (wSd cB cI cZ h ha0 u.2.1) ++ (wLn cB cI cZ k ka0 u.2.2)) (fun u : Int32 × SdS × LnS => [(h, .inr (3, [.ref ha0, .int u.2.1.2.1, .int u.2.1.2.2.1, .int u.2.1.2.2.2])), (ha0, .inl (cI, 400, .inl u.2.1.1)), (k, .inr (1, [.ref ka0, .int u.2.2.2])), (ka0, .inl (cB, 8000, .inl u.2.2.1))]) (wr := []) (krunV (As := [.int (ls_0 (v3).toNatClampNeg), .int 0, .ref k]) (rest := []) ⟨hx, hb, hml, hown, hts⟩ (c_X4_put l D cB cI cZ h ha0 k ka0 (ls_0, ls_1, ls_2, ls_3) (ll_0, ll_1) ((ls_0 (v3).toNatClampNeg)) 0) (cwV 3 hts gX4_putFrame_X4_put rfl rfl rfl (by decide +kernel) ⟨Nat.le_of_ble_eq_true rfl, Nat.le_of_ble_eq_true rfl⟩) hE hK hP hD hS hA [0, 1, 2, 3] rfl (by decide) (ci := 3) (q0 := 0) rfl rfl rfl hl.1 rfl (Nat.le_of_ble_eq_true rfl) dX4_putFrame_54 ⟨Nat.zero_le _, Nat.zero_le _⟩) hP hD hS hA [0, 1, 2, 3] [] [0, 1, 2, 3] rfl rfl (by decide) (by decide) (fun _ => rfl) (by decide) (fun u hu_12 H locs hP hD hS => ?_)
        obtain ⟨r_12, ⟨n12a_0, n12a_1, n12a_2, n12a_3⟩, ⟨n12b_0, n12b_1⟩⟩ := u
        have hP : va_P D vwCl [(h, .inr (3, [.ref ha0, .int n12a_1, .int n12a_2, .int n12a_3])), (ha0, .inl (cI, 400, .inl n12a_0)), (k, .inr (1, [.ref ka0, .int n12b_1])), (ka0, .inl (cB, 8000, .inl n12b_0))] H := hP
        have hD : va_D A [(h, .inr (3, [.ref ha0, .int n12a_1, .int n12a_2, .int n12a_3])), (ha0, .inl (cI, 400, .inl n12a_0)), (k, .inr (1, [.ref ka0, .int n12b_1])), (ka0, .inl (cB, 8000, .inl n12b_0))] := hD
        refine W.eq (g2 := F0 m 57 ls [.int r_12]) rfl ?_
        refine lv_pop hx hb dX4_putFrame_57 rfl ?_
        refine lv_iinc (v := (v3 + 1)) (lv' := [(3, .int (v3 + 1)), (0, .ref h), (1, .ref k), (2, .int v2)]) hx hb dX4_putFrame_58 hl (k := 3) rfl rfl (by decide) rfl (fun ls hl => ?_)
        refine lv_goto (tgt := 30) hx hb dX4_putFrame_61 (by decide) ?_
        have hf : lp_X4_putFrame_30 (n + 1) v2 v3 (ls_0, ls_1, ls_2, ls_3) (ll_0, ll_1) = lp_X4_putFrame_30 n v2 ((v3 + 1)) (n12a_0, n12a_1, n12a_2, n12a_3) (n12b_0, n12b_1) := by simp only [lp_X4_putFrame_30, hu_12, ↓if_neg c_1, ↓if_neg c_6]
        rw [hf]
        exact ih v2 ((v3 + 1)) n12a_0 n12a_1 n12a_2 n12a_3 n12b_0 n12b_1 (by have e_0 := i_nle c_1; have e_1 := i_nle c_6; have z400 : (400 : Int32).toInt = 400 := rfl; have q := i_inc v3 (by omega); omega) _ _ hP hD hS ls (lv_sub hl [1, 2, 3, 0] rfl)
def f_X4_putFrame (S : SdS) (L : LnS) : Int32 × SdS × LnS := match S, L with | (s_0, s_1, s_2, s_3), (l_0, l_1) => (letv ((f_X4_frameGroups (s_0, s_1, s_2, s_3))) (fun x_1 => (if (f_X2_hasRoomFor ((x_1 * 10)) (l_0, l_1)) = 0 then ((-1), (s_0, s_1, s_2, s_3), (l_0, l_1)) else (match f_X4_put 251 1 (s_0, s_1, s_2, s_3) (l_0, l_1) with | (r_3, (n3a_0, n3a_1, n3a_2, n3a_3), (n3b_0, n3b_1)) => (lp_X4_putFrame_30 401 x_1 0 (n3a_0, n3a_1, n3a_2, n3a_3) (n3b_0, n3b_1))))))
set_option maxHeartbeats 4000000 in
set_option maxRecDepth 100000 in
theorem c_X4_putFrame (l : Launch) (D : va_G) (cB cI cZ : ClassId) (h ha0 k ka0 : Nat) (S : SdS) (L : LnS) : CtI l yX4_putFrame wsX4_putFrame rmX4_putFrame D (tyv cB cI cZ) [.ref h, .ref k] (f_X4_putFrame S L).1 ((wSd cB cI cZ h ha0 S) ++ (wLn cB cI cZ k ka0 L)) ((wSd cB cI cZ h ha0 ((f_X4_putFrame S L).2.1)) ++ (wLn cB cI cZ k ka0 ((f_X4_putFrame S L).2.2))) := by
  obtain ⟨s_0, s_1, s_2, s_3⟩ := S
  obtain ⟨l_0, l_1⟩ := L
  refine CtI.of (cc := cX4_putFrame) (maxL := 4) (ret := (some .int)) (by decide +kernel) rfl (Nat.le_of_ble_eq_true rfl) ?_
  intro p e s m below meth c A ls hx hb hr hml hown hts hlocks hE hP hK hD hA hS hl
  have hown : s.vm.findClass RX4 = some m.cls := hown
  have hl : lv_has ls 4 [(0, .ref h), (1, .ref k)] := hl
  have hP : va_P D vwCl [(h, .inr (3, [.ref ha0, .int s_1, .int s_2, .int s_3])), (ha0, .inl (cI, 400, .inl s_0)), (k, .inr (1, [.ref ka0, .int l_1])), (ka0, .inl (cB, 8000, .inl l_0))] s.heap := hP
  have hD : va_D A [(h, .inr (3, [.ref ha0, .int s_1, .int s_2, .int s_3])), (ha0, .inl (cI, 400, .inl s_0)), (k, .inr (1, [.ref ka0, .int l_1])), (ka0, .inl (cB, 8000, .inl l_0))] := hD
  refine lv_aload_n hx hb dX4_putFrame_0 rfl (lv_at hl 0 rfl) ?_
  refine kcalli (wr := [(k, .inr (1, [.ref ka0, .int l_1])), (ka0, .inl (cB, 8000, .inl l_0))]) (ws' := [(h, .inr (3, [.ref ha0, .int s_1, .int s_2, .int s_3])), (ha0, .inl (cI, 400, .inl s_0)), (k, .inr (1, [.ref ka0, .int l_1])), (ka0, .inl (cB, 8000, .inl l_0))]) (krunV (As := []) (rest := []) ⟨hx, hb, hml, hown, hts⟩ (c_X4_frameGroups l D cB cI cZ h ha0 (s_0, s_1, s_2, s_3)) (cwV 0 hts gX4_putFrame_X4_frameGroups rfl rfl rfl (by decide +kernel) ⟨Nat.le_of_ble_eq_true rfl, Nat.le_of_ble_eq_true rfl⟩) hE hK hP hD hS hA [0, 1] rfl (by decide) (ci := 3) (q0 := 0) rfl rfl rfl hl.1 rfl (Nat.le_of_ble_eq_true rfl) dX4_putFrame_1 ⟨Nat.zero_le _, Nat.zero_le _⟩) hP hD hS hA [0, 1] [2, 3] [2, 3, 0, 1] rfl rfl (by decide) (by decide) rfl (by decide) (fun H locs hP hD hS => ?_)
  refine lv_topi (fun x_1 ex_1 => ?_)
  refine lv_istore_n (lv' := [(2, .int x_1), (0, .ref h), (1, .ref k)]) hx hb dX4_putFrame_4 rfl hl (by decide) rfl (fun ls hl => ?_)
  refine lv_aload_n hx hb dX4_putFrame_5 rfl (lv_at hl 2 rfl) ?_
  refine lv_iload_n hx hb dX4_putFrame_6 rfl (lv_at hl 0 rfl) ?_
  refine lv_bipush (v := 10) hx hb dX4_putFrame_7 (by decide) ?_
  refine lv_imul hx hb dX4_putFrame_9 ?_
  refine kcalli (wr := [(h, .inr (3, [.ref ha0, .int s_1, .int s_2, .int s_3])), (ha0, .inl (cI, 400, .inl s_0))]) (ws' := [(h, .inr (3, [.ref ha0, .int s_1, .int s_2, .int s_3])), (ha0, .inl (cI, 400, .inl s_0)), (k, .inr (1, [.ref ka0, .int l_1])), (ka0, .inl (cB, 8000, .inl l_0))]) (krunV (As := [.int (x_1 * 10)]) (rest := []) ⟨hx, hb, hml, hown, hts⟩ (c_X2_hasRoomFor l D cB cI cZ k ka0 (l_0, l_1) ((x_1 * 10))) (cwV 1 hts gX4_putFrame_X2_hasRoomFor rfl rfl rfl (by decide +kernel) ⟨Nat.le_of_ble_eq_true rfl, Nat.le_of_ble_eq_true rfl⟩) hE hK hP hD hS hA [2, 3] rfl (by decide) (ci := 1) (q0 := 2) rfl rfl rfl hl.1 rfl (Nat.le_of_ble_eq_true rfl) dX4_putFrame_10 ⟨Nat.zero_le _, Nat.zero_le _⟩) hP hD hS hA [2, 3] [0, 1] [0, 1, 2, 3] rfl rfl (by decide) (by decide) rfl (by decide) (fun H locs hP hD hS => ?_)
  refine lv_if_ne (tgt := 18) hx hb dX4_putFrame_13 (by decide) (fun c_2 => ?_) (fun c_2 => ?_)
  · refine lv_aload_n hx hb dX4_putFrame_18 rfl (lv_at hl 1 rfl) ?_
    refine lv_sipush (v := 251) hx hb dX4_putFrame_19 (by decide) ?_
    refine lv_iconst (v := 1) hx hb dX4_putFrame_22 (by decide) ?_
    refine lv_aload_n hx hb dX4_putFrame_23 rfl (lv_at hl 2 rfl) ?_
    refine kcalliU (f_X4_put 251 1 (s_0, s_1, s_2, s_3) (l_0, l_1)) (fun u : Int32 × SdS × LnS => u.1) (fun u : Int32 × SdS × LnS => (wSd cB cI cZ h ha0 u.2.1) ++ (wLn cB cI cZ k ka0 u.2.2)) (fun u : Int32 × SdS × LnS => [(h, .inr (3, [.ref ha0, .int u.2.1.2.1, .int u.2.1.2.2.1, .int u.2.1.2.2.2])), (ha0, .inl (cI, 400, .inl u.2.1.1)), (k, .inr (1, [.ref ka0, .int u.2.2.2])), (ka0, .inl (cB, 8000, .inl u.2.2.1))]) (wr := []) (krunV (As := [.int 251, .int 1, .ref k]) (rest := []) ⟨hx, hb, hml, hown, hts⟩ (c_X4_put l D cB cI cZ h ha0 k ka0 (s_0, s_1, s_2, s_3) (l_0, l_1) 251 1) (cwV 3 hts gX4_putFrame_X4_put rfl rfl rfl (by decide +kernel) ⟨Nat.le_of_ble_eq_true rfl, Nat.le_of_ble_eq_true rfl⟩) hE hK hP hD hS hA [0, 1, 2, 3] rfl (by decide) (ci := 3) (q0 := 0) rfl rfl rfl hl.1 rfl (Nat.le_of_ble_eq_true rfl) dX4_putFrame_24 ⟨Nat.zero_le _, Nat.zero_le _⟩) hP hD hS hA [0, 1, 2, 3] [] [0, 1, 2, 3] rfl rfl (by decide) (by decide) (fun _ => rfl) (by decide) (fun u hu_3 H locs hP hD hS => ?_)
    obtain ⟨r_3, ⟨n3a_0, n3a_1, n3a_2, n3a_3⟩, ⟨n3b_0, n3b_1⟩⟩ := u
    have hP : va_P D vwCl [(h, .inr (3, [.ref ha0, .int n3a_1, .int n3a_2, .int n3a_3])), (ha0, .inl (cI, 400, .inl n3a_0)), (k, .inr (1, [.ref ka0, .int n3b_1])), (ka0, .inl (cB, 8000, .inl n3b_0))] H := hP
    have hD : va_D A [(h, .inr (3, [.ref ha0, .int n3a_1, .int n3a_2, .int n3a_3])), (ha0, .inl (cI, 400, .inl n3a_0)), (k, .inr (1, [.ref ka0, .int n3b_1])), (ka0, .inl (cB, 8000, .inl n3b_0))] := hD
    refine W.eq (g2 := F0 m 27 ls [.int r_3]) rfl ?_
    refine lv_pop hx hb dX4_putFrame_27 rfl ?_
    refine lv_iconst (v := 0) hx hb dX4_putFrame_28 (by decide) ?_
    refine lv_istore_n (lv' := [(3, .int 0), (2, .int x_1), (0, .ref h), (1, .ref k)]) hx hb dX4_putFrame_29 rfl hl (by decide) rfl (fun ls hl => ?_)
    have hf : f_X4_putFrame (s_0, s_1, s_2, s_3) (l_0, l_1) = lp_X4_putFrame_30 401 x_1 0 (n3a_0, n3a_1, n3a_2, n3a_3) (n3b_0, n3b_1) := by simp only [f_X4_putFrame, ↓letv_eq ex_1, hu_3, ↓if_neg c_2]
    rw [hf]
    exact lq_X4_putFrame_30 l D cB cI cZ h ha0 k ka0 hx hb hr hml hown hts hlocks hE hK hA 401 x_1 0 n3a_0 n3a_1 n3a_2 n3a_3 n3b_0 n3b_1 (by decide) _ _ hP hD hS ls (lv_sub hl [2, 3, 1, 0] rfl)
  · refine lv_iconst (v := (-1)) hx hb dX4_putFrame_16 (by decide) ?_
    have hf : f_X4_putFrame (s_0, s_1, s_2, s_3) (l_0, l_1) = ((-1), (s_0, s_1, s_2, s_3), (l_0, l_1)) := by simp only [f_X4_putFrame, ↓letv_eq ex_1, ↓if_pos c_2]
    exact kreti hx hb hr hlocks hS hP hK hD dX4_putFrame_17 (congrArg (fun u : Int32 × SdS × LnS => u.1) hf).symm (congrArg (fun u : Int32 × SdS × LnS => (wSd cB cI cZ h ha0 u.2.1) ++ (wLn cB cI cZ k ka0 u.2.2)) hf).symm

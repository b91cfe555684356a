set_option maxRecDepth 100000 in
theorem stM_0 : (List.range 128).all (fun g => decide (scan k_GM2 0 (g + 0) = k_TM.getD (g + 0) 0)) = true := by decide +kernel
set_option maxRecDepth 100000 in
theorem stM_1 : (List.range 128).all (fun g => decide (scan k_GM2 0 (g + 128) = k_TM.getD (g + 128) 0)) = true := by decide +kernel
set_option maxRecDepth 100000 in
theorem stM_2 : (List.range 128).all (fun g => decide (scan k_GM2 0 (g + 256) = k_TM.getD (g + 256) 0)) = true := by decide +kernel
set_option maxRecDepth 100000 in
theorem stM_3 : (List.range 128).all (fun g => decide (scan k_GM2 0 (g + 384) = k_TM.getD (g + 384) 0)) = true := by decide +kernel
set_option maxRecDepth 100000 in
theorem stM_4 : (List.range 128).all (fun g => decide (scan k_GM2 0 (g + 512) = k_TM.getD (g + 512) 0)) = true := by decide +kernel
set_option maxRecDepth 100000 in
theorem stM_5 : (List.range 128).all (fun g => decide (scan k_GM2 0 (g + 640) = k_TM.getD (g + 640) 0)) = true := by decide +kernel
set_option maxRecDepth 100000 in
theorem stM_6 : (List.range 128).all (fun g => decide (scan k_GM2 0 (g + 768) = k_TM.getD (g + 768) 0)) = true := by decide +kernel
set_option maxRecDepth 100000 in
theorem stM_7 : (List.range 128).all (fun g => decide (scan k_GM2 0 (g + 896) = k_TM.getD (g + 896) 0)) = true := by decide +kernel
theorem stM (g : Nat) (h : g < 1024) : scan k_GM2 0 g = k_TM.getD g 0 := by
  have key : ∀ (a : Nat) (H : (List.range 128).all (fun q => decide (scan k_GM2 0 (q + a) = k_TM.getD (q + a) 0)) = true), a ≤ g → g < a + 128 → scan k_GM2 0 g = k_TM.getD g 0 := by
    intro a H h1 h2
    have q := List.all_eq_true.mp H (g - a) (List.mem_range.mpr (by omega))
    have e : g - a + a = g := by omega
    rw [e] at q
    exact of_decide_eq_true q
  by_cases h0 : g < 128
  · exact key 0 stM_0 (by omega) (by omega)
  by_cases h1 : g < 256
  · exact key 128 stM_1 (by omega) (by omega)
  by_cases h2 : g < 384
  · exact key 256 stM_2 (by omega) (by omega)
  by_cases h3 : g < 512
  · exact key 384 stM_3 (by omega) (by omega)
  by_cases h4 : g < 640
  · exact key 512 stM_4 (by omega) (by omega)
  by_cases h5 : g < 768
  · exact key 640 stM_5 (by omega) (by omega)
  by_cases h6 : g < 896
  · exact key 768 stM_6 (by omega) (by omega)
  by_cases h7 : g < 1024
  · exact key 896 stM_7 (by omega) (by omega)
  · omega
set_option maxRecDepth 100000 in
theorem stP_0 : (List.range 128).all (fun g => decide (scan k_GP2 0 (g + 0) = k_TP.getD (g + 0) 0)) = true := by decide +kernel
set_option maxRecDepth 100000 in
theorem stP_1 : (List.range 128).all (fun g => decide (scan k_GP2 0 (g + 128) = k_TP.getD (g + 128) 0)) = true := by decide +kernel
set_option maxRecDepth 100000 in
theorem stP_2 : (List.range 128).all (fun g => decide (scan k_GP2 0 (g + 256) = k_TP.getD (g + 256) 0)) = true := by decide +kernel
set_option maxRecDepth 100000 in
theorem stP_3 : (List.range 128).all (fun g => decide (scan k_GP2 0 (g + 384) = k_TP.getD (g + 384) 0)) = true := by decide +kernel
set_option maxRecDepth 100000 in
theorem stP_4 : (List.range 128).all (fun g => decide (scan k_GP2 0 (g + 512) = k_TP.getD (g + 512) 0)) = true := by decide +kernel
set_option maxRecDepth 100000 in
theorem stP_5 : (List.range 128).all (fun g => decide (scan k_GP2 0 (g + 640) = k_TP.getD (g + 640) 0)) = true := by decide +kernel
set_option maxRecDepth 100000 in
theorem stP_6 : (List.range 128).all (fun g => decide (scan k_GP2 0 (g + 768) = k_TP.getD (g + 768) 0)) = true := by decide +kernel
set_option maxRecDepth 100000 in
theorem stP_7 : (List.range 128).all (fun g => decide (scan k_GP2 0 (g + 896) = k_TP.getD (g + 896) 0)) = true := by decide +kernel
theorem stP (g : Nat) (h : g < 1024) : scan k_GP2 0 g = k_TP.getD g 0 := by
  have key : ∀ (a : Nat) (H : (List.range 128).all (fun q => decide (scan k_GP2 0 (q + a) = k_TP.getD (q + a) 0)) = true), a ≤ g → g < a + 128 → scan k_GP2 0 g = k_TP.getD g 0 := by
    intro a H h1 h2
    have q := List.all_eq_true.mp H (g - a) (List.mem_range.mpr (by omega))
    have e : g - a + a = g := by omega
    rw [e] at q
    exact of_decide_eq_true q
  by_cases h0 : g < 128
  · exact key 0 stP_0 (by omega) (by omega)
  by_cases h1 : g < 256
  · exact key 128 stP_1 (by omega) (by omega)
  by_cases h2 : g < 384
  · exact key 256 stP_2 (by omega) (by omega)
  by_cases h3 : g < 512
  · exact key 384 stP_3 (by omega) (by omega)
  by_cases h4 : g < 640
  · exact key 512 stP_4 (by omega) (by omega)
  by_cases h5 : g < 768
  · exact key 640 stP_5 (by omega) (by omega)
  by_cases h6 : g < 896
  · exact key 768 stP_6 (by omega) (by omega)
  by_cases h7 : g < 1024
  · exact key 896 stP_7 (by omega) (by omega)
  · omega
theorem lpd_eq {g d : Int32} {M : MdS} (h : tabOK M) : ∀ (n v : Nat), v ≤ 256 → lp_X7_decode_25 n g d (nI v) M = lp_X7_decode_25 n g d (nI v) mdC := by
  intro n
  induction n with
  | zero =>
    intro v hv
    obtain ⟨m_0, m_1, m_2, m_3, m_4, m_5, m_6, m_7, m_8, m_9, m_10, m_11, m_12, m_13, m_14, m_15, m_16, m_17, m_18, m_19, m_20, m_21, m_22, m_23, m_24, m_25, m_26, m_27, m_28, m_29, m_30, m_31⟩ := M
    rfl
  | succ n ih =>
    intro v hv
    have hs : nI v + 1 = nI (v + 1) := nI_1 v
    by_cases c : (256 : Int32) ≤ nI v
    · rw [lpd_step, lpd_step, if_pos c, if_pos c]
    · have e := i_nle c
      have z : (256 : Int32).toInt = 256 := rfl
      have zz := nI_toInt (n := v) (by omega)
      have hr : 0 ≤ (nI v).toInt ∧ (nI v).toInt ≤ 255 := by omega
      have e0 := grp_eq (sg := 0) (d := d) h hr
      have e1 := grp_eq (sg := 1) (d := d) h hr
      have hih := ih (v + 1) (by omega)
      rw [lpd_step, lpd_step, if_neg c, if_neg c, hs, e0, e1, hih]
theorem dec_eq {g d : Int32} {M : MdS} (h : tabOK M) : f_X0_symbolOf g d = f_X7_decode g d M := by
  have h0 := lpd_eq (g := g) (d := d) h 257 0 (by omega)
  rw [nI_0] at h0
  by_cases c1 : g < 0
  · obtain ⟨m_0, m_1, m_2, m_3, m_4, m_5, m_6, m_7, m_8, m_9, m_10, m_11, m_12, m_13, m_14, m_15, m_16, m_17, m_18, m_19, m_20, m_21, m_22, m_23, m_24, m_25, m_26, m_27, m_28, m_29, m_30, m_31⟩ := M
    simp only [f_X0_symbolOf, f_X7_decode, ↓if_pos c1]
  by_cases c2 : 1023 < g
  · obtain ⟨m_0, m_1, m_2, m_3, m_4, m_5, m_6, m_7, m_8, m_9, m_10, m_11, m_12, m_13, m_14, m_15, m_16, m_17, m_18, m_19, m_20, m_21, m_22, m_23, m_24, m_25, m_26, m_27, m_28, m_29, m_30, m_31⟩ := M
    simp only [f_X0_symbolOf, f_X7_decode, ↓if_neg c1, ↓if_pos c2]
  have q1 := i_nlt c1
  have q2 := i_nlt c2
  have z0 : (0 : Int32).toInt = 0 := rfl
  have z1 : (1023 : Int32).toInt = 1023 := rfl
  obtain ⟨k, hk, rfl⟩ := nI_of c1
  have zk := nI_toInt (n := k) hk
  have hk2 : k < 1024 := by omega
  by_cases c3 : d = -1
  · subst c3
    rw [dcm k hk2, ← stM k hk2]
    have w := scM 257 0 k rfl (by decide) hk2
    rw [nI_0, List.drop_zero] at w
    rw [← w, ← h0]
    obtain ⟨m_0, m_1, m_2, m_3, m_4, m_5, m_6, m_7, m_8, m_9, m_10, m_11, m_12, m_13, m_14, m_15, m_16, m_17, m_18, m_19, m_20, m_21, m_22, m_23, m_24, m_25, m_26, m_27, m_28, m_29, m_30, m_31⟩ := M
    simp only [f_X7_decode, ↓if_neg c1, ↓if_neg c2, ↓reduceIte]
  · by_cases c4 : d = 1
    · subst c4
      rw [dcp k hk2, ← stP k hk2]
      have w := scP 257 0 k rfl (by decide) hk2
      rw [nI_0, List.drop_zero] at w
      rw [← w, ← h0]
      obtain ⟨m_0, m_1, m_2, m_3, m_4, m_5, m_6, m_7, m_8, m_9, m_10, m_11, m_12, m_13, m_14, m_15, m_16, m_17, m_18, m_19, m_20, m_21, m_22, m_23, m_24, m_25, m_26, m_27, m_28, m_29, m_30, m_31⟩ := M
      simp only [f_X7_decode, ↓if_neg c1, ↓if_neg c2, ↓if_neg c3, ↓reduceIte]
    · obtain ⟨m_0, m_1, m_2, m_3, m_4, m_5, m_6, m_7, m_8, m_9, m_10, m_11, m_12, m_13, m_14, m_15, m_16, m_17, m_18, m_19, m_20, m_21, m_22, m_23, m_24, m_25, m_26, m_27, m_28, m_29, m_30, m_31⟩ := M
      simp only [f_X0_symbolOf, f_X7_decode, ↓if_neg c1, ↓if_neg c2, ↓if_neg c3, ↓if_neg c4]


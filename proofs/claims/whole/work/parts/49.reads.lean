theorem sim_ok (k : Nat) (S : CGS) (M : MdS) (h : Rel k S M) : mdOK M ∧ lnOK S.1 ∧ shOK S.2.2.2.1 := by
  obtain ⟨⟨f, x⟩, ⟨s0, s1, s2, s3⟩, ⟨⟨r_0_0, r_0_1, r_0_2, r_0_3⟩, ⟨r_1_0, r_1_1, r_1_2, r_1_3, r_1_4, r_1_5, r_1_6, r_1_7, r_1_8⟩, r_2, r_3, r_4, r_5, r_6, r_7, r_8, r_9, r_10, r_11⟩⟩ := S
  obtain ⟨m_0, m_1, m_2, m_3, m_4, m_5, m_6, m_7, m_8, m_9, m_10, m_11, m_12, m_13, m_14, m_15, m_16, m_17, m_18, m_19, m_20, m_21, m_22, m_23, m_24, m_25, m_26, m_27, m_28, m_29, m_30, m_31⟩ := M
  obtain ⟨n, t, c, h1, h2, h3, h4, h5⟩ := h
  obtain ⟨t1, t2, t3, t4, t5, t6, t7, t8⟩ := h3
  obtain ⟨⟨a1, a2, a3, a4, a5, a6, a7, a8, a9, b1, b2, b3, bx⟩, ⟨q, q1, q2, q3, q4, q5, q6⟩, ⟨s, k2, d1, d2, d3, d4, d5, d6, d7, d8, d9, d10, d11⟩⟩ := h5
  have e1 : x = nI n := h2.2.1
  have e2 : m_4 = nI n := h2.2.2.1
  have e3 : m_6 = nI t := t3
  have e4 : m_26 = nI k2 := d5
  have e5 : r_1_3 = nI s := d3
  have zn := nI_toInt (n := n) (by have := h2.1; omega)
  have zt := nI_toInt (n := t) (by omega)
  have zk := nI_toInt (n := k2) (by omega)
  have zs := nI_toInt (n := s) (by omega)
  have hn := h2.1
  refine ⟨⟨⟨?_, ?_, d8, ?_⟩, d9⟩, ⟨h2.2.2.2.1, ?_, ?_⟩, ?_, ?_⟩
  · show 0 ≤ m_4.toInt ∧ m_4.toInt ≤ 8000
    rw [e2]; omega
  · show 0 ≤ m_6.toInt ∧ m_6.toInt ≤ 400
    rw [e3]; omega
  · show 0 ≤ m_26.toInt ∧ m_26.toInt ≤ 40
    rw [e4]; omega
  · show 0 ≤ x.toInt
    rw [e1]; omega
  · show x.toInt ≤ 8000
    rw [e1]; omega
  · show 0 ≤ r_1_3.toInt
    rw [e5]; omega
  · show r_1_3.toInt < 41
    rw [e5]; omega
theorem sim_disparity (w : Int32) (k : Nat) (S : CGS) (M : MdS) (_ : k < 512) (h : Rel k S M) : f_X6_disparity w S = f_X7_disparity w M := by
  obtain ⟨⟨f, x⟩, ⟨s0, s1, s2, s3⟩, ⟨⟨r_0_0, r_0_1, r_0_2, r_0_3⟩, ⟨r_1_0, r_1_1, r_1_2, r_1_3, r_1_4, r_1_5, r_1_6, r_1_7, r_1_8⟩, r_2, r_3, r_4, r_5, r_6, r_7, r_8, r_9, r_10, r_11⟩⟩ := S
  obtain ⟨m_0, m_1, m_2, m_3, m_4, m_5, m_6, m_7, m_8, m_9, m_10, m_11, m_12, m_13, m_14, m_15, m_16, m_17, m_18, m_19, m_20, m_21, m_22, m_23, m_24, m_25, m_26, m_27, m_28, m_29, m_30, m_31⟩ := M
  obtain ⟨n, t, c, h1, h2, h3, h4, h5⟩ := h
  obtain ⟨t1, t2, t3, t4, t5, t6, t7, t8⟩ := h3
  obtain ⟨⟨a1, a2, a3, a4, a5, a6, a7, a8, a9, b1, b2, b3, bx⟩, ⟨q, q1, q2, q3, q4, q5, q6⟩, ⟨s, k2, d1, d2, d3, d4, d5, d6, d7, d8, d9, d10, d11⟩⟩ := h5
  have e1 : s2 = m_7 := t5
  have e2 : r_5 = m_9 := a5
  simp only [f_X6_disparity, f_X7_disparity, e1, e2]
theorem sim_level (k : Nat) (S : CGS) (M : MdS) (_ : k < 512) (h : Rel k S M) : f_X6_level S = f_X7_level M := by
  obtain ⟨⟨f, x⟩, ⟨s0, s1, s2, s3⟩, ⟨⟨r_0_0, r_0_1, r_0_2, r_0_3⟩, ⟨r_1_0, r_1_1, r_1_2, r_1_3, r_1_4, r_1_5, r_1_6, r_1_7, r_1_8⟩, r_2, r_3, r_4, r_5, r_6, r_7, r_8, r_9, r_10, r_11⟩⟩ := S
  obtain ⟨m_0, m_1, m_2, m_3, m_4, m_5, m_6, m_7, m_8, m_9, m_10, m_11, m_12, m_13, m_14, m_15, m_16, m_17, m_18, m_19, m_20, m_21, m_22, m_23, m_24, m_25, m_26, m_27, m_28, m_29, m_30, m_31⟩ := M
  obtain ⟨n, t, c, h1, h2, h3, h4, h5⟩ := h
  obtain ⟨t1, t2, t3, t4, t5, t6, t7, t8⟩ := h3
  obtain ⟨⟨a1, a2, a3, a4, a5, a6, a7, a8, a9, b1, b2, b3, bx⟩, ⟨q, q1, q2, q3, q4, q5, q6⟩, ⟨s, k2, d1, d2, d3, d4, d5, d6, d7, d8, d9, d10, d11⟩⟩ := h5
  exact a7
theorem sim_trust (k : Nat) (S : CGS) (M : MdS) (_ : k < 512) (h : Rel k S M) : f_X6_trust S = f_X7_trust M := by
  obtain ⟨⟨f, x⟩, ⟨s0, s1, s2, s3⟩, ⟨⟨r_0_0, r_0_1, r_0_2, r_0_3⟩, ⟨r_1_0, r_1_1, r_1_2, r_1_3, r_1_4, r_1_5, r_1_6, r_1_7, r_1_8⟩, r_2, r_3, r_4, r_5, r_6, r_7, r_8, r_9, r_10, r_11⟩⟩ := S
  obtain ⟨m_0, m_1, m_2, m_3, m_4, m_5, m_6, m_7, m_8, m_9, m_10, m_11, m_12, m_13, m_14, m_15, m_16, m_17, m_18, m_19, m_20, m_21, m_22, m_23, m_24, m_25, m_26, m_27, m_28, m_29, m_30, m_31⟩ := M
  obtain ⟨n, t, c, h1, h2, h3, h4, h5⟩ := h
  obtain ⟨t1, t2, t3, t4, t5, t6, t7, t8⟩ := h3
  obtain ⟨⟨a1, a2, a3, a4, a5, a6, a7, a8, a9, b1, b2, b3, bx⟩, ⟨q, q1, q2, q3, q4, q5, q6⟩, ⟨s, k2, d1, d2, d3, d4, d5, d6, d7, d8, d9, d10, d11⟩⟩ := h5
  exact a8
theorem sim_decode (g d : Int32) (k : Nat) (S : CGS) (M : MdS) (_ : k < 512) (h : Rel k S M) : f_X6_decode g d S = f_X7_decode g d M := by
  obtain ⟨n, t, c, h1, h2⟩ := h
  rw [← dec_eq h1]
  obtain ⟨⟨f, x⟩, ⟨s0, s1, s2, s3⟩, ⟨⟨r_0_0, r_0_1, r_0_2, r_0_3⟩, ⟨r_1_0, r_1_1, r_1_2, r_1_3, r_1_4, r_1_5, r_1_6, r_1_7, r_1_8⟩, r_2, r_3, r_4, r_5, r_6, r_7, r_8, r_9, r_10, r_11⟩⟩ := S
  rfl
theorem sim_count (w : Int32) (k : Nat) (S : CGS) (M : MdS) (_ : k < 512) (h : Rel k S M) : f_X6_count w S = f_X7_count w M := by
  obtain ⟨⟨f, x⟩, ⟨s0, s1, s2, s3⟩, ⟨⟨r_0_0, r_0_1, r_0_2, r_0_3⟩, ⟨r_1_0, r_1_1, r_1_2, r_1_3, r_1_4, r_1_5, r_1_6, r_1_7, r_1_8⟩, r_2, r_3, r_4, r_5, r_6, r_7, r_8, r_9, r_10, r_11⟩⟩ := S
  obtain ⟨m_0, m_1, m_2, m_3, m_4, m_5, m_6, m_7, m_8, m_9, m_10, m_11, m_12, m_13, m_14, m_15, m_16, m_17, m_18, m_19, m_20, m_21, m_22, m_23, m_24, m_25, m_26, m_27, m_28, m_29, m_30, m_31⟩ := M
  obtain ⟨n, t, c, h1, h2, h3, h4, h5⟩ := h
  obtain ⟨t1, t2, t3, t4, t5, t6, t7, t8⟩ := h3
  obtain ⟨⟨a1, a2, a3, a4, a5, a6, a7, a8, a9, b1, b2, b3, bx⟩, ⟨q, q1, q2, q3, q4, q5, q6⟩, ⟨s, k2, d1, d2, d3, d4, d5, d6, d7, d8, d9, d10, d11⟩⟩ := h5
  have e0 : s3 = m_8 := t7.trans t8.symm
  have e1 : r_9 = m_16 := b1
  have e2 : r_10 = m_17 := b2
  have e3 : r_11 = m_18 := b3
  have e4 : r_1_4 = m_26 := d4.trans d5.symm
  have e5 : r_1_7 = m_30 := d6
  have e6 : r_1_8 = m_31 := d7
  have e7 : r_0_3 = m_19 := q2.trans q3.symm
  simp only [f_X6_count, f_X7_count, e0, e1, e2, e3, e4, e5, e6, e7]
/-- the slot of the i-th frame that is kept -/
theorem slot_of {s k2 i : Nat} (hs : s < 41) (hk : k2 ≤ 40) (hi : i < k2) : (f_J9_floorMod_7cf53 ((nI s - nI k2) + nI i) 41).toNatClampNeg = (s + 41 - k2 + i) % 41 := by
  have zs := nI_toInt (n := s) (by omega)
  have zk := nI_toInt (n := k2) (by omega)
  have zi := nI_toInt (n := i) (by omega)
  have p1 := i_sub (nI s) (nI k2) (by omega)
  have p2 := i_add (nI s - nI k2) (nI i) (by omega)
  rw [i_cl, fm_mod, p2, p1]
  omega
theorem fr_ix {kk : Int32} {k2 : Nat} (hk : k2 ≤ 40) (h1 : ¬ kk < 0) (h2 : ¬ nI k2 ≤ kk) : ∃ i : Nat, i < k2 ∧ kk = nI i ∧ kk.toNatClampNeg = i := by
  obtain ⟨j, hj, rfl⟩ := nI_of h1
  have q : ¬ k2 ≤ j := fun w => h2 (nI_le w hj)
  exact ⟨j, by omega, rfl, nI_clamp hj⟩
theorem sim_length (kk : Int32) (k : Nat) (S : CGS) (M : MdS) (_ : k < 512) (h : Rel k S M) : f_X6_length kk S = f_X7_length kk M := by
  obtain ⟨⟨f, x⟩, ⟨s0, s1, s2, s3⟩, ⟨⟨r_0_0, r_0_1, r_0_2, r_0_3⟩, ⟨r_1_0, r_1_1, r_1_2, r_1_3, r_1_4, r_1_5, r_1_6, r_1_7, r_1_8⟩, r_2, r_3, r_4, r_5, r_6, r_7, r_8, r_9, r_10, r_11⟩⟩ := S
  obtain ⟨m_0, m_1, m_2, m_3, m_4, m_5, m_6, m_7, m_8, m_9, m_10, m_11, m_12, m_13, m_14, m_15, m_16, m_17, m_18, m_19, m_20, m_21, m_22, m_23, m_24, m_25, m_26, m_27, m_28, m_29, m_30, m_31⟩ := M
  obtain ⟨n, t, c, h1, h2, h3, h4, h5⟩ := h
  obtain ⟨t1, t2, t3, t4, t5, t6, t7, t8⟩ := h3
  obtain ⟨⟨a1, a2, a3, a4, a5, a6, a7, a8, a9, b1, b2, b3, bx⟩, ⟨q, q1, q2, q3, q4, q5, q6⟩, ⟨s, k2, d1, d2, d3, d4, d5, d6, d7, d8, d9, d10, d11⟩⟩ := h5
  have e3 : r_1_3 = nI s := d3
  have e4 : r_1_4 = nI k2 := d4
  have e5 : m_26 = nI k2 := d5
  subst e3
  subst e4
  subst e5
  have h10 : ¬ (1 : Int32) = 0 := by decide
  by_cases c1 : kk < 0
  · simp only [f_X6_length, f_X1_lengthOf, f_X1_has, f_X7_length, f_X7_isFrame, ↓if_pos c1, ↓reduceIte]
  · by_cases c2 : nI k2 ≤ kk
    · simp only [f_X6_length, f_X1_lengthOf, f_X1_has, f_X7_length, f_X7_isFrame, ↓if_neg c1, ↓if_pos c2, ↓reduceIte]
    · obtain ⟨i, hi, rfl, ec⟩ := fr_ix d2 c1 c2
      obtain ⟨len, l1, l2, l3, l4, l5, l6⟩ := d10 i hi
      simp only [f_X6_length, f_X1_lengthOf, f_X1_has, f_X1_slotOf, f_X7_length, f_X7_isFrame, ↓if_neg c1, ↓if_neg c2, ↓if_neg h10, ec, slot_of d1 d2 hi]
      exact l2.trans l3.symm
theorem sim_whole (kk : Int32) (k : Nat) (S : CGS) (M : MdS) (_ : k < 512) (h : Rel k S M) : f_X6_whole kk S = f_X7_whole kk M := by
  obtain ⟨⟨f, x⟩, ⟨s0, s1, s2, s3⟩, ⟨⟨r_0_0, r_0_1, r_0_2, r_0_3⟩, ⟨r_1_0, r_1_1, r_1_2, r_1_3, r_1_4, r_1_5, r_1_6, r_1_7, r_1_8⟩, r_2, r_3, r_4, r_5, r_6, r_7, r_8, r_9, r_10, r_11⟩⟩ := S
  obtain ⟨m_0, m_1, m_2, m_3, m_4, m_5, m_6, m_7, m_8, m_9, m_10, m_11, m_12, m_13, m_14, m_15, m_16, m_17, m_18, m_19, m_20, m_21, m_22, m_23, m_24, m_25, m_26, m_27, m_28, m_29, m_30, m_31⟩ := M
  obtain ⟨n, t, c, h1, h2, h3, h4, h5⟩ := h
  obtain ⟨t1, t2, t3, t4, t5, t6, t7, t8⟩ := h3
  obtain ⟨⟨a1, a2, a3, a4, a5, a6, a7, a8, a9, b1, b2, b3, bx⟩, ⟨q, q1, q2, q3, q4, q5, q6⟩, ⟨s, k2, d1, d2, d3, d4, d5, d6, d7, d8, d9, d10, d11⟩⟩ := h5
  have e3 : r_1_3 = nI s := d3
  have e4 : r_1_4 = nI k2 := d4
  have e5 : m_26 = nI k2 := d5
  subst e3
  subst e4
  subst e5
  have h10 : ¬ (1 : Int32) = 0 := by decide
  by_cases c1 : kk < 0
  · simp only [f_X6_whole, f_X1_isWhole, f_X1_has, f_X7_whole, f_X7_isFrame, ↓if_pos c1, ↓reduceIte]
  · by_cases c2 : nI k2 ≤ kk
    · simp only [f_X6_whole, f_X1_isWhole, f_X1_has, f_X7_whole, f_X7_isFrame, ↓if_neg c1, ↓if_pos c2, ↓reduceIte]
    · obtain ⟨i, hi, rfl, ec⟩ := fr_ix d2 c1 c2
      obtain ⟨len, l1, l2, l3, l4, l5, l6⟩ := d10 i hi
      have l4 : r_1_2 ((s + 41 - k2 + i) % 41) = m_28 i := l4
      simp only [f_X6_whole, f_X1_isWhole, f_X1_has, f_X1_slotOf, f_X7_whole, f_X7_isFrame, ↓if_neg c1, ↓if_neg c2, ↓if_neg h10, ec, slot_of d1 d2 hi, l4]

theorem sim_symbol (kk : Int32) (k : Nat) (S : CGS) (M : MdS) (hk : k < 512) (h : Rel k S M) : f_X6_symbol kk S = f_X7_symbol kk M := by
  obtain ⟨⟨f, x⟩, ⟨s0, s1, s2, s3⟩, ⟨⟨r_0_0, r_0_1, r_0_2, r_0_3⟩, ⟨r_1_0, r_1_1, r_1_2, r_1_3, r_1_4, r_1_5, r_1_6, r_1_7, r_1_8⟩, r_2, r_3, r_4, r_5, r_6, r_7, r_8, r_9, r_10, r_11⟩⟩ := S
  obtain ⟨m_0, m_1, m_2, m_3, m_4, m_5, m_6, m_7, m_8, m_9, m_10, m_11, m_12, m_13, m_14, m_15, m_16, m_17, m_18, m_19, m_20, m_21, m_22, m_23, m_24, m_25, m_26, m_27, m_28, m_29, m_30, m_31⟩ := M
  obtain ⟨n, t, c, h1, h2, h3, h4, h5⟩ := h
  obtain ⟨t1, t2, t3, t4, t5, t6, t7, t8⟩ := h3
  obtain ⟨⟨a1, a2, a3, a4, a5, a6, a7, a8, a9, b1, b2, b3, bx⟩, ⟨q, q1, q2, q3, q4, q5, q6⟩, ⟨s, k2, d1, d2, d3, d4, d5, d6, d7, d8, d9, d10, d11⟩⟩ := h5
  have q3 : m_19 = nI q := q3
  have q4 : r_0_2 = nI (min q 100) := q4
  have q5 : r_0_1 = nI (q % 100) := q5
  subst q3
  subst q4
  subst q5
  by_cases c1 : kk < 0
  · simp only [f_X6_symbol, f_X5_latest, f_X7_symbol, ↓if_pos c1]
  obtain ⟨j, hj, rfl⟩ := nI_of c1
  have zj := nI_toInt (n := j) hj
  have z100 : (100 : Int32).toInt = 100 := rfl
  have z1 : (1 : Int32).toInt = 1 := rfl
  by_cases c2 : j < min q 100
  · have c3 : nI j < nI (min q 100) := nI_lt c2 (by omega)
    have c4 : ¬ (100 : Int32) ≤ nI j := nI_ge (b := 100) (by omega) (by decide)
    have c5 : ¬ nI q ≤ nI j := nI_ge (by omega) (by omega)
    have zq := nI_toInt (n := q % 100) (by omega)
    have p1 := i_sub (nI (q % 100)) 1 (by omega)
    have p2 := i_sub (nI (q % 100) - 1) (nI j) (by omega)
    have p3 := i_add (nI (q % 100) - 1 - nI j) 100 (by omega)
    have e9 : ((99 : Int32) - nI j).toNatClampNeg = 99 - j := by
      have w : (99 : Int32) - nI j = nI (99 - j) := pk_sub (a := 99) (by omega)
      rw [w, nI_clamp (by omega)]
    have hrow : r_0_0 ((q - 1 - j) % 100) = m_20 (99 - j) := q6 j c2
    simp only [f_X6_symbol, f_X5_latest, f_X7_symbol, letv, ↓if_neg c1, ↓if_pos c3, ↓if_neg c4, ↓if_neg c5, e9]
    by_cases c6 : (0 : Int32) ≤ nI (q % 100) - 1 - nI j
    · have e6 := i_le c6
      have z0 : (0 : Int32).toInt = 0 := rfl
      have c7 : ¬ nI (q % 100) - 1 - nI j < 0 := i_nn (by omega)
      have c8 : ¬ (100 : Int32) ≤ nI (q % 100) - 1 - nI j := fun w => by have := i_le w; omega
      rw [if_pos c6, if_neg c7, if_neg c8, ← hrow, i_cl, p2, p1, zq, zj, z1]
      congr 1
      omega
    · have e6 := i_nle c6
      have z0 : (0 : Int32).toInt = 0 := rfl
      have c7 : ¬ nI (q % 100) - 1 - nI j + 100 < 0 := i_nn (by omega)
      have c8 : ¬ (100 : Int32) ≤ nI (q % 100) - 1 - nI j + 100 := fun w => by have := i_le w; omega
      rw [if_neg c6, if_neg c7, if_neg c8, ← hrow, i_cl, p3, p2, p1, zq, zj, z1, z100]
      congr 1
      omega
  · have c3 : ¬ nI j < nI (min q 100) := fun w => c2 ((nI_ltI hj (by omega)).mp w)
    simp only [f_X6_symbol, f_X5_latest, f_X7_symbol, ↓if_neg c1, ↓if_neg c3]
    by_cases c4 : (100 : Int32) ≤ nI j
    · rw [if_pos c4]
    · have c5 : nI q ≤ nI j := by
        have w : ¬ 100 ≤ j := fun w => c4 (nI_le (a := 100) w hj)
        exact nI_le (by omega) hj
      rw [if_neg c4, if_pos c5]
theorem sim_at (kk i : Int32) (k : Nat) (S : CGS) (M : MdS) (_ : k < 512) (h : Rel k S M) : f_X6_at kk i S = f_X7_at kk i M := by
  obtain ⟨⟨f, x⟩, ⟨s0, s1, s2, s3⟩, ⟨⟨r_0_0, r_0_1, r_0_2, r_0_3⟩, ⟨r_1_0, r_1_1, r_1_2, r_1_3, r_1_4, r_1_5, r_1_6, r_1_7, r_1_8⟩, r_2, r_3, r_4, r_5, r_6, r_7, r_8, r_9, r_10, r_11⟩⟩ := S
  obtain ⟨m_0, m_1, m_2, m_3, m_4, m_5, m_6, m_7, m_8, m_9, m_10, m_11, m_12, m_13, m_14, m_15, m_16, m_17, m_18, m_19, m_20, m_21, m_22, m_23, m_24, m_25, m_26, m_27, m_28, m_29, m_30, m_31⟩ := M
  obtain ⟨n, t, c, h1, h2, h3, h4, h5⟩ := h
  obtain ⟨t1, t2, t3, t4, t5, t6, t7, t8⟩ := h3
  obtain ⟨⟨a1, a2, a3, a4, a5, a6, a7, a8, a9, b1, b2, b3, bx⟩, ⟨q, q1, q2, q3, q4, q5, q6⟩, ⟨s, k2, d1, d2, d3, d4, d5, d6, d7, d8, d9, d10, d11⟩⟩ := h5
  have e3 : r_1_3 = nI s := d3
  have e4 : r_1_4 = nI k2 := d4
  have e5 : m_26 = nI k2 := d5
  subst e3
  subst e4
  subst e5
  have h10 : ¬ (1 : Int32) = 0 := by decide
  have zm : (-1 : Int32).toInt = -1 := rfl
  have z0 : (0 : Int32).toInt = 0 := rfl
  by_cases c0 : i < 0
  · simp only [f_X6_at, f_X1_byteOf, f_X7_at, ↓if_pos c0, ite_self]
  have e0 := i_nlt c0
  have cm : ¬ i < -1 := fun w => by have := i_lt w; omega
  by_cases cv : kk < 0 ∨ nI k2 ≤ kk
  · have hl : f_X1_lengthOf kk (r_1_0, r_1_1, r_1_2, nI s, nI k2, r_1_5, r_1_6, r_1_7, r_1_8) = -1 := by
      by_cases c1 : kk < 0
      · simp only [f_X1_lengthOf, f_X1_has, ↓if_pos c1, ↓reduceIte]
      · rcases cv with cv | cv
        · exact absurd cv c1
        · simp only [f_X1_lengthOf, f_X1_has, ↓if_neg c1, ↓if_pos cv, ↓reduceIte]
    have hf : f_X7_isFrame kk (m_0, m_1, m_2, m_3, m_4, m_5, m_6, m_7, m_8, m_9, m_10, m_11, m_12, m_13, m_14, m_15, m_16, m_17, m_18, m_19, m_20, m_21, m_22, m_23, m_24, m_25, nI k2, m_27, m_28, m_29, m_30, m_31) = 0 := by
      by_cases c1 : kk < 0
      · simp only [f_X7_isFrame, ↓if_pos c1]
      · rcases cv with cv | cv
        · exact absurd cv c1
        · simp only [f_X7_isFrame, ↓if_neg c1, ↓if_pos cv]
    simp only [f_X6_at, f_X1_byteOf, f_X7_at, ↓if_neg c0, hl, ↓if_neg cm, ↓if_pos hf, ite_self]
  · have c1 : ¬ kk < 0 := fun w => cv (Or.inl w)
    have c2 : ¬ nI k2 ≤ kk := fun w => cv (Or.inr w)
    obtain ⟨a, ha, rfl, ec⟩ := fr_ix d2 c1 c2
    obtain ⟨len, l1, l2, l3, l4, l5, l6⟩ := d10 a ha
    have hl : f_X1_lengthOf (nI a) (r_1_0, r_1_1, r_1_2, nI s, nI k2, r_1_5, r_1_6, r_1_7, r_1_8) = nI len := by
      simp only [f_X1_lengthOf, f_X1_has, f_X1_slotOf, ↓if_neg c1, ↓if_neg c2, ↓if_neg h10, slot_of d1 d2 ha]
      exact l2
    have hf : ¬ f_X7_isFrame (nI a) (m_0, m_1, m_2, m_3, m_4, m_5, m_6, m_7, m_8, m_9, m_10, m_11, m_12, m_13, m_14, m_15, m_16, m_17, m_18, m_19, m_20, m_21, m_22, m_23, m_24, m_25, nI k2, m_27, m_28, m_29, m_30, m_31) = 0 := by
      simp only [f_X7_isFrame, ↓if_neg c1, ↓if_neg c2]
      exact h10
    have l3 : m_27 a = nI len := l3
    obtain ⟨j, hj, rfl⟩ := nI_of c0
    by_cases c4 : j < len
    · have c5 : ¬ (300 : Int32) ≤ nI j := nI_ge (b := 300) (by omega) (by decide)
      have c6 : nI j < nI len := nI_lt c4 (by omega)
      have c7 : ¬ nI len ≤ nI j := nI_ge c4 (by omega)
      have hsl := slot_of d1 d2 ha
      have hsr := fm_41 ((nI s - nI k2) + nI a)
      have hsi : f_J9_floorMod_7cf53 ((nI s - nI k2) + nI a) 41 = nI ((s + 41 - k2 + a) % 41) := by
        apply i_eq
        rw [nI_toInt (by omega), ← hsl, i_cl]
        omega
      have e1 : (nI ((s + 41 - k2 + a) % 41) * 75 + (nI j >>> ((2 : Int32) &&& 31))).toNatClampNeg = 75 * ((s + 41 - k2 + a) % 41) + j / 4 := by
        rw [pk_shrN hj ((2 : Int32) &&& 31) 2 (by decide), show (75 : Int32) = nI 75 from rfl, pk_mul, nI_add, nI_clamp (by omega)]
        omega
      have e2 : (nI j &&& 3) * 8 = nI (8 * (j % 4)) := by
        rw [pk_andN (by omega) (m := 3) 2 (by decide), show (8 : Int32) = nI 8 from rfl, pk_mul, Nat.mul_comm]
      have e3 : (300 * nI a + nI j).toNatClampNeg = 300 * a + j := by
        rw [show (300 : Int32) = nI 300 from rfl, pk_mul, nI_add, nI_clamp (by omega)]
      simp only [f_X6_at, f_X1_byteOf, f_X1_slotOf, f_X7_at, letv, ↓if_neg c0, ↓if_neg c5, hl, ↓if_pos c6, ↓if_neg hf, ec, l3, ↓if_neg c7, hsi, e1, e2, e3]
      exact l6 j c4
    · have c6 : ¬ nI j < nI len := fun w => c4 ((nI_ltI hj (by omega)).mp w)
      have c7 : nI len ≤ nI j := nI_le (by omega) hj
      simp only [f_X6_at, f_X1_byteOf, f_X7_at, ↓if_neg c0, hl, ↓if_neg c6, ↓if_neg hf, ec, l3, ↓if_pos c7, ite_self]

theorem look_in {w0 w1 w2 : Nat → Int32} {w3 w4 w5 w6 w7 w8 : Int32} {m_0 : Nat → Int32} {m_1 : Nat → Int32} {m_2 : Nat → Int32} {m_3 : Nat → Int32} {m_4 : Int32} {m_5 : Nat → Int32} {m_6 : Int32} {m_7 : Int32} {m_8 : Int32} {m_9 : Int32} {m_10 : Int32} {m_11 : Int32} {m_12 : Int32} {m_13 : Int32} {m_14 : Int32} {m_15 : Int32} {m_16 : Int32} {m_17 : Int32} {m_18 : Int32} {m_19 : Int32} {m_20 : Nat → Int32} {m_21 : Int32} {m_22 : Int32} {m_23 : Int32} {m_24 : Int32} {m_25 : Nat → Int32} {m_26 : Int32} {m_27 : Nat → Int32} {m_28 : Nat → Int32} {m_29 : Nat → Int32} {m_30 : Int32} {m_31 : Int32} {v : Int32} (h : RSh w0 w1 w2 w3 w4 w5 w6 w7 w8 m_21 m_22 m_23 m_24 m_25 m_26 m_27 m_28 m_29 m_30 m_31) (h5 : w5 = 1) (hv1 : ¬ v = (-1)) : ∃ (v0 v1 v2 : Nat → Int32) (v3 v4 v5 v6 v7 v8 n21 n22 n23 n24 : Int32) (n25 : Nat → Int32) (n26 : Int32) (n27 n28 n29 : Nat → Int32) (n30 n31 : Int32), f_X1_lookInside v (w0, w1, w2, w3, w4, w5, w6, w7, w8) = (v0, v1, v2, v3, v4, v5, v6, v7, v8) ∧ jn_X7_receive_156 v (m_0, m_1, m_2, m_3, m_4, m_5, m_6, m_7, m_8, m_9, m_10, m_11, m_12, m_13, m_14, m_15, m_16, m_17, m_18, m_19, m_20, m_21, m_22, m_23, m_24, m_25, m_26, m_27, m_28, m_29, m_30, m_31) = (m_0, m_1, m_2, m_3, m_4, m_5, m_6, m_7, m_8, m_9, m_10, m_11, m_12, m_13, m_14, m_15, m_16, m_17, m_18, m_19, m_20, n21, n22, n23, n24, n25, n26, n27, n28, n29, n30, n31) ∧ RSh v0 v1 v2 v3 v4 v5 v6 v7 v8 n21 n22 n23 n24 n25 n26 n27 n28 n29 n30 n31 := by
  have ho : ¬ m_21 = 0 := by
    rcases rs_op h with ⟨o1, o2⟩ | ⟨o1, o2⟩
    · rw [o1] at h5; exact absurd h5 (by decide)
    · rw [o1]; decide
  by_cases c256 : (256 : Int32) ≤ v
  · by_cases c509 : v = 509
    · refine ⟨w0, w1, w2, w3, w4, 2, w6, w7, w8, m_21, m_22, 1, m_24, m_25, m_26, m_27, m_28, m_29, m_30, m_31, ?_, ?_, rs_cls h ho⟩
      · simp only [f_X1_lookInside, ↓if_neg hv1, ↓if_pos c256, ↓if_pos c509]
      · simp only [jn_X7_receive_156, jn_X7_receive_212, ↓if_neg ho, ↓if_pos c256, ↓if_pos c509]
    · obtain ⟨v2, v3, v4, v8, g26, g27, g28, g29, g31, e1, e2, e3⟩ := end_sim (a := 0) (m_0 := m_0) (m_1 := m_1) (m_2 := m_2) (m_3 := m_3) (m_4 := m_4) (m_5 := m_5) (m_6 := m_6) (m_7 := m_7) (m_8 := m_8) (m_9 := m_9) (m_10 := m_10) (m_11 := m_11) (m_12 := m_12) (m_13 := m_13) (m_14 := m_14) (m_15 := m_15) (m_16 := m_16) (m_17 := m_17) (m_18 := m_18) (m_19 := m_19) (m_20 := m_20) (m_21 := m_21) (m_22 := m_22) (m_23 := m_23) (m_24 := m_24) (m_25 := m_25) (m_26 := m_26) (m_27 := m_27) (m_28 := m_28) (m_29 := m_29) (m_30 := m_30) (m_31 := m_31) (Or.inl rfl) h ho
      refine ⟨_, _, _, _, _, _, _, _, _, _, _, _, _, _, _, _, _, _, _, _, ?_, ?_, e3⟩
      · simp only [f_X1_lookInside, ↓if_neg hv1, ↓if_pos c256, ↓if_neg c509]
        exact e1
      · simp only [jn_X7_receive_156, jn_X7_receive_212, jn_X7_receive_234, ↓if_neg ho, ↓if_pos c256, ↓if_neg c509]
        exact e2
  · obtain ⟨v0, v1, v2, v3, v4, v5, v6, v7, v8, n21, n22, n23, n24, n25, n26, n27, n28, n29, n30, n31, e1, e2, e3⟩ := add_sim (v := v) (m_0 := m_0) (m_1 := m_1) (m_2 := m_2) (m_3 := m_3) (m_4 := m_4) (m_5 := m_5) (m_6 := m_6) (m_7 := m_7) (m_8 := m_8) (m_9 := m_9) (m_10 := m_10) (m_11 := m_11) (m_12 := m_12) (m_13 := m_13) (m_14 := m_14) (m_15 := m_15) (m_16 := m_16) (m_17 := m_17) (m_18 := m_18) (m_19 := m_19) (m_20 := m_20) (m_21 := m_21) (m_22 := m_22) (m_23 := m_23) (m_24 := m_24) (m_25 := m_25) (m_26 := m_26) (m_27 := m_27) (m_28 := m_28) (m_29 := m_29) (m_30 := m_30) (m_31 := m_31) h ho c256
    refine ⟨v0, v1, v2, v3, v4, v5, v6, v7, v8, n21, n22, n23, n24, n25, n26, n27, n28, n29, n30, n31, ?_, e2, e3⟩
    simp only [f_X1_lookInside, ↓if_neg hv1, ↓if_neg c256]
    exact e1
theorem look_94 {w0 w1 w2 : Nat → Int32} {w3 w4 w5 w6 w7 w8 : Int32} {m_0 : Nat → Int32} {m_1 : Nat → Int32} {m_2 : Nat → Int32} {m_3 : Nat → Int32} {m_4 : Int32} {m_5 : Nat → Int32} {m_6 : Int32} {m_7 : Int32} {m_8 : Int32} {m_9 : Int32} {m_10 : Int32} {m_11 : Int32} {m_12 : Int32} {m_13 : Int32} {m_14 : Int32} {m_15 : Int32} {m_16 : Int32} {m_17 : Int32} {m_18 : Int32} {m_19 : Int32} {m_20 : Nat → Int32} {m_21 : Int32} {m_22 : Int32} {m_23 : Int32} {m_24 : Int32} {m_25 : Nat → Int32} {m_26 : Int32} {m_27 : Nat → Int32} {m_28 : Nat → Int32} {m_29 : Nat → Int32} {m_30 : Int32} {m_31 : Int32} {v : Int32} (h : RSh w0 w1 w2 w3 w4 w5 w6 w7 w8 m_21 m_22 m_23 m_24 m_25 m_26 m_27 m_28 m_29 m_30 m_31) (h2 : ¬ w5 = 2) : ∃ (v0 v1 v2 : Nat → Int32) (v3 v4 v5 v6 v7 v8 n21 n22 n23 n24 : Int32) (n25 : Nat → Int32) (n26 : Int32) (n27 n28 n29 : Nat → Int32) (n30 n31 : Int32), jn_X1_look_31 v (w0, w1, w2, w3, w4, w5, w6, w7, w8) = (v0, v1, v2, v3, v4, v5, v6, v7, v8) ∧ jn_X7_receive_94 v (m_0, m_1, m_2, m_3, m_4, m_5, m_6, m_7, m_8, m_9, m_10, m_11, m_12, m_13, m_14, m_15, m_16, m_17, m_18, m_19, m_20, m_21, m_22, m_23, m_24, m_25, m_26, m_27, m_28, m_29, m_30, m_31) = (m_0, m_1, m_2, m_3, m_4, m_5, m_6, m_7, m_8, m_9, m_10, m_11, m_12, m_13, m_14, m_15, m_16, m_17, m_18, m_19, m_20, n21, n22, n23, n24, n25, n26, n27, n28, n29, n30, n31) ∧ RSh v0 v1 v2 v3 v4 v5 v6 v7 v8 n21 n22 n23 n24 n25 n26 n27 n28 n29 n30 n31 := by
  by_cases c507 : v = 507
  · rcases rs_op h with ⟨o1, o2⟩ | ⟨o1, o2, o3, o4⟩
    · obtain ⟨v0, v1, v2, v3, v4, v5, v6, v7, v8, n21, n22, n23, n24, n25, n26, n27, n28, n29, n30, n31, e1, e2, e3⟩ := begin_sim (v := v) (m_0 := m_0) (m_1 := m_1) (m_2 := m_2) (m_3 := m_3) (m_4 := m_4) (m_5 := m_5) (m_6 := m_6) (m_7 := m_7) (m_8 := m_8) (m_9 := m_9) (m_10 := m_10) (m_11 := m_11) (m_12 := m_12) (m_13 := m_13) (m_14 := m_14) (m_15 := m_15) (m_16 := m_16) (m_17 := m_17) (m_18 := m_18) (m_19 := m_19) (m_20 := m_20) (m_21 := m_21) (m_22 := m_22) (m_23 := m_23) (m_24 := m_24) (m_25 := m_25) (m_26 := m_26) (m_27 := m_27) (m_28 := m_28) (m_29 := m_29) (m_30 := m_30) (m_31 := m_31) h
      refine ⟨v0, v1, v2, v3, v4, v5, v6, v7, v8, n21, n22, n23, n24, n25, n26, n27, n28, n29, n30, n31, ?_, ?_, e3⟩
      · simp only [jn_X1_look_31, ↓if_pos c507, f_X1_lose, ↓if_pos o1]
        exact e1
      · simp only [jn_X7_receive_94, ↓if_pos c507, ↓if_pos o2]
        exact e2
    · have ho : ¬ m_21 = 0 := by rw [o1]; decide
      have h0 : ¬ w5 = 0 := by
        rcases o2 with ⟨q, _⟩ | ⟨q, _⟩ <;> rw [q] <;> decide
      obtain ⟨u2, u3, u4, u8, g26, g27, g28, g29, g31, e1, e2, e3⟩ := end_sim (a := 0) (m_0 := m_0) (m_1 := m_1) (m_2 := m_2) (m_3 := m_3) (m_4 := m_4) (m_5 := m_5) (m_6 := m_6) (m_7 := m_7) (m_8 := m_8) (m_9 := m_9) (m_10 := m_10) (m_11 := m_11) (m_12 := m_12) (m_13 := m_13) (m_14 := m_14) (m_15 := m_15) (m_16 := m_16) (m_17 := m_17) (m_18 := m_18) (m_19 := m_19) (m_20 := m_20) (m_21 := m_21) (m_22 := m_22) (m_23 := m_23) (m_24 := m_24) (m_25 := m_25) (m_26 := m_26) (m_27 := m_27) (m_28 := m_28) (m_29 := m_29) (m_30 := m_30) (m_31 := m_31) (Or.inl rfl) h ho
      obtain ⟨v0, v1, v2, v3, v4, v5, v6, v7, v8, n21, n22, n23, n24, n25, n26, n27, n28, n29, n30, n31, f1, f2, f3⟩ := begin_sim (v := v) (m_0 := m_0) (m_1 := m_1) (m_2 := m_2) (m_3 := m_3) (m_4 := m_4) (m_5 := m_5) (m_6 := m_6) (m_7 := m_7) (m_8 := m_8) (m_9 := m_9) (m_10 := m_10) (m_11 := m_11) (m_12 := m_12) (m_13 := m_13) (m_14 := m_14) (m_15 := m_15) (m_16 := m_16) (m_17 := m_17) (m_18 := m_18) (m_19 := m_19) (m_20 := m_20) (m_21 := 0) (m_22 := m_22) (m_23 := m_23) (m_24 := m_24) (m_25 := m_25) (m_26 := g26) (m_27 := g27) (m_28 := g28) (m_29 := g29) (m_30 := (m_30 + 1)) (m_31 := g31) e3
      refine ⟨v0, v1, v2, v3, v4, v5, v6, v7, v8, n21, n22, n23, n24, n25, n26, n27, n28, n29, n30, n31, ?_, ?_, f3⟩
      · simp only [jn_X1_look_31, ↓if_pos c507, f_X1_lose, ↓if_neg h0, e1]
        exact f1
      · simp only [jn_X7_receive_94, ↓if_pos c507, ↓if_neg ho, e2]
        exact f2
  · rcases rs_op h with ⟨o1, o2⟩ | ⟨o1, o2, o3, o4⟩
    · have h1 : ¬ w5 = 1 := by rw [o1]; decide
      refine ⟨_, _, _, _, _, _, _, _, _, _, _, _, _, _, _, _, _, _, _, _, ?_, ?_, h⟩
      · simp only [jn_X1_look_31, ↓if_neg c507, ↓if_neg h1]
      · simp only [jn_X7_receive_94, jn_X7_receive_156, jn_X7_receive_212, jn_X7_receive_234, ↓if_neg c507, ↓if_pos o2]
    · have ho : ¬ m_21 = 0 := by rw [o1]; decide
      have h1 : w5 = 1 := by
        rcases o2 with ⟨q, _⟩ | ⟨q, _⟩
        · exact q
        · exact absurd q h2
      by_cases cm : v = (-1)
      · refine ⟨_, _, _, _, _, _, _, _, _, _, _, _, _, _, _, _, _, _, _, _, ?_, ?_, rs_brk h⟩
        · simp only [jn_X1_look_31, ↓if_neg c507, ↓if_pos h1, f_X1_lookInside, ↓if_pos cm]
        · simp only [jn_X7_receive_94, ↓if_neg c507, ↓if_neg ho, ↓if_pos cm]
      · obtain ⟨v0, v1, v2, v3, v4, v5, v6, v7, v8, n21, n22, n23, n24, n25, n26, n27, n28, n29, n30, n31, e1, e2, e3⟩ := look_in (v := v) (m_0 := m_0) (m_1 := m_1) (m_2 := m_2) (m_3 := m_3) (m_4 := m_4) (m_5 := m_5) (m_6 := m_6) (m_7 := m_7) (m_8 := m_8) (m_9 := m_9) (m_10 := m_10) (m_11 := m_11) (m_12 := m_12) (m_13 := m_13) (m_14 := m_14) (m_15 := m_15) (m_16 := m_16) (m_17 := m_17) (m_18 := m_18) (m_19 := m_19) (m_20 := m_20) (m_21 := m_21) (m_22 := m_22) (m_23 := m_23) (m_24 := m_24) (m_25 := m_25) (m_26 := m_26) (m_27 := m_27) (m_28 := m_28) (m_29 := m_29) (m_30 := m_30) (m_31 := m_31) h h1 cm
        refine ⟨v0, v1, v2, v3, v4, v5, v6, v7, v8, n21, n22, n23, n24, n25, n26, n27, n28, n29, n30, n31, ?_, ?_, e3⟩
        · simp only [jn_X1_look_31, ↓if_neg c507, ↓if_pos h1]
          exact e1
        · simp only [jn_X7_receive_94, ↓if_neg c507, ↓if_neg ho, ↓if_neg cm]
          exact e2
theorem look_sim {w0 w1 w2 : Nat → Int32} {w3 w4 w5 w6 w7 w8 : Int32} {m_0 : Nat → Int32} {m_1 : Nat → Int32} {m_2 : Nat → Int32} {m_3 : Nat → Int32} {m_4 : Int32} {m_5 : Nat → Int32} {m_6 : Int32} {m_7 : Int32} {m_8 : Int32} {m_9 : Int32} {m_10 : Int32} {m_11 : Int32} {m_12 : Int32} {m_13 : Int32} {m_14 : Int32} {m_15 : Int32} {m_16 : Int32} {m_17 : Int32} {m_18 : Int32} {m_19 : Int32} {m_20 : Nat → Int32} {m_21 : Int32} {m_22 : Int32} {m_23 : Int32} {m_24 : Int32} {m_25 : Nat → Int32} {m_26 : Int32} {m_27 : Nat → Int32} {m_28 : Nat → Int32} {m_29 : Nat → Int32} {m_30 : Int32} {m_31 : Int32} {v : Int32} (h : RSh w0 w1 w2 w3 w4 w5 w6 w7 w8 m_21 m_22 m_23 m_24 m_25 m_26 m_27 m_28 m_29 m_30 m_31) : ∃ (v0 v1 v2 : Nat → Int32) (v3 v4 v5 v6 v7 v8 n21 n22 n23 n24 : Int32) (n25 : Nat → Int32) (n26 : Int32) (n27 n28 n29 : Nat → Int32) (n30 n31 : Int32), f_X1_look v (w0, w1, w2, w3, w4, w5, w6, w7, w8) = (v0, v1, v2, v3, v4, v5, v6, v7, v8) ∧ jn_X7_receive_57 v (m_0, m_1, m_2, m_3, m_4, m_5, m_6, m_7, m_8, m_9, m_10, m_11, m_12, m_13, m_14, m_15, m_16, m_17, m_18, m_19, m_20, m_21, m_22, m_23, m_24, m_25, m_26, m_27, m_28, m_29, m_30, m_31) = (m_0, m_1, m_2, m_3, m_4, m_5, m_6, m_7, m_8, m_9, m_10, m_11, m_12, m_13, m_14, m_15, m_16, m_17, m_18, m_19, m_20, n21, n22, n23, n24, n25, n26, n27, n28, n29, n30, n31) ∧ RSh v0 v1 v2 v3 v4 v5 v6 v7 v8 n21 n22 n23 n24 n25 n26 n27 n28 n29 n30 n31 := by
  rcases rs_op h with ⟨o1, o2⟩ | ⟨o1, o2, o3, o4⟩
  · have h2 : ¬ w5 = 2 := by rw [o1]; decide
    obtain ⟨v0, v1, v2, v3, v4, v5, v6, v7, v8, n21, n22, n23, n24, n25, n26, n27, n28, n29, n30, n31, e1, e2, e3⟩ := look_94 (v := v) (m_0 := m_0) (m_1 := m_1) (m_2 := m_2) (m_3 := m_3) (m_4 := m_4) (m_5 := m_5) (m_6 := m_6) (m_7 := m_7) (m_8 := m_8) (m_9 := m_9) (m_10 := m_10) (m_11 := m_11) (m_12 := m_12) (m_13 := m_13) (m_14 := m_14) (m_15 := m_15) (m_16 := m_16) (m_17 := m_17) (m_18 := m_18) (m_19 := m_19) (m_20 := m_20) (m_21 := m_21) (m_22 := m_22) (m_23 := m_23) (m_24 := m_24) (m_25 := m_25) (m_26 := m_26) (m_27 := m_27) (m_28 := m_28) (m_29 := m_29) (m_30 := m_30) (m_31 := m_31) h h2
    refine ⟨v0, v1, v2, v3, v4, v5, v6, v7, v8, n21, n22, n23, n24, n25, n26, n27, n28, n29, n30, n31, ?_, ?_, e3⟩
    · simp only [f_X1_look, ↓if_neg h2]
      exact e1
    · simp only [jn_X7_receive_57, ↓if_pos o2]
      exact e2
  · have ho : ¬ m_21 = 0 := by rw [o1]; decide
    rcases o2 with ⟨q1, q2⟩ | ⟨q1, q2⟩
    · have h2 : ¬ w5 = 2 := by rw [q1]; decide
      obtain ⟨v0, v1, v2, v3, v4, v5, v6, v7, v8, n21, n22, n23, n24, n25, n26, n27, n28, n29, n30, n31, e1, e2, e3⟩ := look_94 (v := v) (m_0 := m_0) (m_1 := m_1) (m_2 := m_2) (m_3 := m_3) (m_4 := m_4) (m_5 := m_5) (m_6 := m_6) (m_7 := m_7) (m_8 := m_8) (m_9 := m_9) (m_10 := m_10) (m_11 := m_11) (m_12 := m_12) (m_13 := m_13) (m_14 := m_14) (m_15 := m_15) (m_16 := m_16) (m_17 := m_17) (m_18 := m_18) (m_19 := m_19) (m_20 := m_20) (m_21 := m_21) (m_22 := m_22) (m_23 := m_23) (m_24 := m_24) (m_25 := m_25) (m_26 := m_26) (m_27 := m_27) (m_28 := m_28) (m_29 := m_29) (m_30 := m_30) (m_31 := m_31) h h2
      refine ⟨v0, v1, v2, v3, v4, v5, v6, v7, v8, n21, n22, n23, n24, n25, n26, n27, n28, n29, n30, n31, ?_, ?_, e3⟩
      · simp only [f_X1_look, ↓if_neg h2]
        exact e1
      · simp only [jn_X7_receive_57, ↓if_neg ho, ↓if_pos q2]
        exact e2
    · have q3 : ¬ m_23 = 0 := by rw [q2]; decide
      have hz : ¬ (0 : Int32) = 2 := by decide
      by_cases c3 : v = 503
      · by_cases c6 : w6 = 0
        · have c6' : m_22 = 0 := by rw [← o3]; exact c6
          obtain ⟨u2, u3, u4, u8, g26, g27, g28, g29, g31, e1, e2, e3⟩ := end_sim (a := 1) (m_0 := m_0) (m_1 := m_1) (m_2 := m_2) (m_3 := m_3) (m_4 := m_4) (m_5 := m_5) (m_6 := m_6) (m_7 := m_7) (m_8 := m_8) (m_9 := m_9) (m_10 := m_10) (m_11 := m_11) (m_12 := m_12) (m_13 := m_13) (m_14 := m_14) (m_15 := m_15) (m_16 := m_16) (m_17 := m_17) (m_18 := m_18) (m_19 := m_19) (m_20 := m_20) (m_21 := m_21) (m_22 := m_22) (m_23 := m_23) (m_24 := m_24) (m_25 := m_25) (m_26 := m_26) (m_27 := m_27) (m_28 := m_28) (m_29 := m_29) (m_30 := m_30) (m_31 := m_31) (Or.inr rfl) h ho
          obtain ⟨v0, v1, v2, v3, v4, v5, v6, v7, v8, n21, n22, n23, n24, n25, n26, n27, n28, n29, n30, n31, f1, f2, f3⟩ := look_94 (v := v) (m_0 := m_0) (m_1 := m_1) (m_2 := m_2) (m_3 := m_3) (m_4 := m_4) (m_5 := m_5) (m_6 := m_6) (m_7 := m_7) (m_8 := m_8) (m_9 := m_9) (m_10 := m_10) (m_11 := m_11) (m_12 := m_12) (m_13 := m_13) (m_14 := m_14) (m_15 := m_15) (m_16 := m_16) (m_17 := m_17) (m_18 := m_18) (m_19 := m_19) (m_20 := m_20) (m_21 := 0) (m_22 := m_22) (m_23 := m_23) (m_24 := m_24) (m_25 := m_25) (m_26 := g26) (m_27 := g27) (m_28 := g28) (m_29 := g29) (m_30 := (m_30 + 1)) (m_31 := g31) e3 hz
          refine ⟨v0, v1, v2, v3, v4, v5, v6, v7, v8, n21, n22, n23, n24, n25, n26, n27, n28, n29, n30, n31, ?_, ?_, f3⟩
          · simp only [f_X1_look, ↓if_pos q1, ↓if_pos c3, ↓if_pos c6, e1]
            exact f1
          · simp only [jn_X7_receive_57, ↓if_neg ho, ↓if_neg q3, ↓if_pos c3, ↓if_pos c6', e2]
            exact f2
        · have c6' : ¬ m_22 = 0 := by rw [← o3]; exact c6
          obtain ⟨u2, u3, u4, u8, g26, g27, g28, g29, g31, e1, e2, e3⟩ := end_sim (a := 0) (m_0 := m_0) (m_1 := m_1) (m_2 := m_2) (m_3 := m_3) (m_4 := m_4) (m_5 := m_5) (m_6 := m_6) (m_7 := m_7) (m_8 := m_8) (m_9 := m_9) (m_10 := m_10) (m_11 := m_11) (m_12 := m_12) (m_13 := m_13) (m_14 := m_14) (m_15 := m_15) (m_16 := m_16) (m_17 := m_17) (m_18 := m_18) (m_19 := m_19) (m_20 := m_20) (m_21 := m_21) (m_22 := m_22) (m_23 := m_23) (m_24 := m_24) (m_25 := m_25) (m_26 := m_26) (m_27 := m_27) (m_28 := m_28) (m_29 := m_29) (m_30 := m_30) (m_31 := m_31) (Or.inl rfl) h ho
          obtain ⟨v0, v1, v2, v3, v4, v5, v6, v7, v8, n21, n22, n23, n24, n25, n26, n27, n28, n29, n30, n31, f1, f2, f3⟩ := look_94 (v := v) (m_0 := m_0) (m_1 := m_1) (m_2 := m_2) (m_3 := m_3) (m_4 := m_4) (m_5 := m_5) (m_6 := m_6) (m_7 := m_7) (m_8 := m_8) (m_9 := m_9) (m_10 := m_10) (m_11 := m_11) (m_12 := m_12) (m_13 := m_13) (m_14 := m_14) (m_15 := m_15) (m_16 := m_16) (m_17 := m_17) (m_18 := m_18) (m_19 := m_19) (m_20 := m_20) (m_21 := 0) (m_22 := m_22) (m_23 := m_23) (m_24 := m_24) (m_25 := m_25) (m_26 := g26) (m_27 := g27) (m_28 := g28) (m_29 := g29) (m_30 := (m_30 + 1)) (m_31 := g31) e3 hz
          refine ⟨v0, v1, v2, v3, v4, v5, v6, v7, v8, n21, n22, n23, n24, n25, n26, n27, n28, n29, n30, n31, ?_, ?_, f3⟩
          · simp only [f_X1_look, ↓if_pos q1, ↓if_pos c3, ↓if_neg c6, e1]
            exact f1
          · simp only [jn_X7_receive_57, ↓if_neg ho, ↓if_neg q3, ↓if_pos c3, ↓if_neg c6', e2]
            exact f2
      · obtain ⟨u2, u3, u4, u8, g26, g27, g28, g29, g31, e1, e2, e3⟩ := end_sim (a := 0) (m_0 := m_0) (m_1 := m_1) (m_2 := m_2) (m_3 := m_3) (m_4 := m_4) (m_5 := m_5) (m_6 := m_6) (m_7 := m_7) (m_8 := m_8) (m_9 := m_9) (m_10 := m_10) (m_11 := m_11) (m_12 := m_12) (m_13 := m_13) (m_14 := m_14) (m_15 := m_15) (m_16 := m_16) (m_17 := m_17) (m_18 := m_18) (m_19 := m_19) (m_20 := m_20) (m_21 := m_21) (m_22 := m_22) (m_23 := m_23) (m_24 := m_24) (m_25 := m_25) (m_26 := m_26) (m_27 := m_27) (m_28 := m_28) (m_29 := m_29) (m_30 := m_30) (m_31 := m_31) (Or.inl rfl) h ho
        obtain ⟨v0, v1, v2, v3, v4, v5, v6, v7, v8, n21, n22, n23, n24, n25, n26, n27, n28, n29, n30, n31, f1, f2, f3⟩ := look_94 (v := v) (m_0 := m_0) (m_1 := m_1) (m_2 := m_2) (m_3 := m_3) (m_4 := m_4) (m_5 := m_5) (m_6 := m_6) (m_7 := m_7) (m_8 := m_8) (m_9 := m_9) (m_10 := m_10) (m_11 := m_11) (m_12 := m_12) (m_13 := m_13) (m_14 := m_14) (m_15 := m_15) (m_16 := m_16) (m_17 := m_17) (m_18 := m_18) (m_19 := m_19) (m_20 := m_20) (m_21 := 0) (m_22 := m_22) (m_23 := m_23) (m_24 := m_24) (m_25 := m_25) (m_26 := g26) (m_27 := g27) (m_28 := g28) (m_29 := g29) (m_30 := (m_30 + 1)) (m_31 := g31) e3 hz
        refine ⟨v0, v1, v2, v3, v4, v5, v6, v7, v8, n21, n22, n23, n24, n25, n26, n27, n28, n29, n30, n31, ?_, ?_, f3⟩
        · simp only [f_X1_look, ↓if_pos q1, ↓if_neg c3, e1]
          exact f1
        · simp only [jn_X7_receive_57, ↓if_neg ho, ↓if_neg q3, ↓if_neg c3, e2]
          exact f2
theorem receive_sim {k : Nat} {g0 : Nat → Int32} {g1 g2 g3 : Int32} {w0 w1 w2 : Nat → Int32} {w3 w4 w5 w6 w7 w8 : Int32} {m_0 : Nat → Int32} {m_1 : Nat → Int32} {m_2 : Nat → Int32} {m_3 : Nat → Int32} {m_4 : Int32} {m_5 : Nat → Int32} {m_6 : Int32} {m_7 : Int32} {m_8 : Int32} {m_9 : Int32} {m_10 : Int32} {m_11 : Int32} {m_12 : Int32} {m_13 : Int32} {m_14 : Int32} {m_15 : Int32} {m_16 : Int32} {m_17 : Int32} {m_18 : Int32} {m_19 : Int32} {m_20 : Nat → Int32} {m_21 : Int32} {m_22 : Int32} {m_23 : Int32} {m_24 : Int32} {m_25 : Nat → Int32} {m_26 : Int32} {m_27 : Nat → Int32} {m_28 : Nat → Int32} {m_29 : Nat → Int32} {m_30 : Int32} {m_31 : Int32} {v : Int32} (hk : k < 100000000) (hL : RLg k g0 g1 g2 g3 m_19 m_20) (h : RSh w0 w1 w2 w3 w4 w5 w6 w7 w8 m_21 m_22 m_23 m_24 m_25 m_26 m_27 m_28 m_29 m_30 m_31) : ∃ (e0 : Nat → Int32) (e1 e2 e3 : Int32) (n20 : Nat → Int32), f_X5_keep v (g0, g1, g2, g3) = (e0, e1, e2, e3) ∧ RLg (k + 1) e0 e1 e2 e3 (m_19 + 1) n20 ∧ ∃ (v0 v1 v2 : Nat → Int32) (v3 v4 v5 v6 v7 v8 n21 n22 n23 n24 : Int32) (n25 : Nat → Int32) (n26 : Int32) (n27 n28 n29 : Nat → Int32) (n30 n31 : Int32), f_X1_look v (w0, w1, w2, w3, w4, w5, w6, w7, w8) = (v0, v1, v2, v3, v4, v5, v6, v7, v8) ∧ f_X7_receive v (m_0, m_1, m_2, m_3, m_4, m_5, m_6, m_7, m_8, m_9, m_10, m_11, m_12, m_13, m_14, m_15, m_16, m_17, m_18, m_19, m_20, m_21, m_22, m_23, m_24, m_25, m_26, m_27, m_28, m_29, m_30, m_31) = (m_0, m_1, m_2, m_3, m_4, m_5, m_6, m_7, m_8, m_9, m_10, m_11, m_12, m_13, m_14, m_15, m_16, m_17, m_18, m_19 + 1, n20, n21, n22, n23, n24, n25, n26, n27, n28, n29, n30, n31) ∧ RSh v0 v1 v2 v3 v4 v5 v6 v7 v8 n21 n22 n23 n24 n25 n26 n27 n28 n29 n30 n31 := by
  obtain ⟨g, p1, p2, p3, p4⟩ := rec_loop 100 0 v m_20 m_0 m_1 m_2 m_3 m_4 m_5 m_6 m_7 m_8 m_9 m_10 m_11 m_12 m_13 m_14 m_15 m_16 m_17 m_18 (m_19 + 1) m_21 m_22 m_23 m_24 m_25 m_26 m_27 m_28 m_29 m_30 m_31 (by omega) (by omega)
  obtain ⟨e0, e1, e2, e3, k1, k2⟩ := keep_sim (v := v) (g := g) hL hk (fun j hj => p2 j (by omega) hj) p3
  obtain ⟨v0, v1, v2, v3, v4, v5, v6, v7, v8, n21, n22, n23, n24, n25, n26, n27, n28, n29, n30, n31, f1, f2, f3⟩ := look_sim (v := v) (m_0 := m_0) (m_1 := m_1) (m_2 := m_2) (m_3 := m_3) (m_4 := m_4) (m_5 := m_5) (m_6 := m_6) (m_7 := m_7) (m_8 := m_8) (m_9 := m_9) (m_10 := m_10) (m_11 := m_11) (m_12 := m_12) (m_13 := m_13) (m_14 := m_14) (m_15 := m_15) (m_16 := m_16) (m_17 := m_17) (m_18 := m_18) (m_19 := (m_19 + 1)) (m_20 := g) (m_21 := m_21) (m_22 := m_22) (m_23 := m_23) (m_24 := m_24) (m_25 := m_25) (m_26 := m_26) (m_27 := m_27) (m_28 := m_28) (m_29 := m_29) (m_30 := m_30) (m_31 := m_31) h
  refine ⟨e0, e1, e2, e3, g, k1, k2, v0, v1, v2, v3, v4, v5, v6, v7, v8, n21, n22, n23, n24, n25, n26, n27, n28, n29, n30, n31, f1, ?_, f3⟩
  simp only [f_X7_receive]
  rw [nI_0] at p4
  rw [p4]
  exact f2

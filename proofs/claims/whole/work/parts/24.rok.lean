theorem pr_r234 {t : TxS} {w : Int32} {M : MdS} (h : pr t M) : pr t (jn_X7_receive_234 w M) := by
  obtain ⟨m_0, m_1, m_2, m_3, m_4, m_5, m_6, m_7, m_8, m_9, m_10, m_11, m_12, m_13, m_14, m_15, m_16, m_17, m_18, m_19, m_20, m_21, m_22, m_23, m_24, m_25, m_26, m_27, m_28, m_29, m_30, m_31⟩ := M
  have h : okz m_4 m_6 m_24 m_26 m_27 ∧ (m_0, m_1, m_2, m_3, m_4, m_5, m_6, m_7, m_8) = t := h
  simp only [jn_X7_receive_234]
  repeat' split
  all_goals first | ((with_reducible refine pr_end ?_); exact h) | exact h
theorem pr_r212 {t : TxS} {w : Int32} {M : MdS} (h : pr t M) : pr t (jn_X7_receive_212 w M) := by
  obtain ⟨m_0, m_1, m_2, m_3, m_4, m_5, m_6, m_7, m_8, m_9, m_10, m_11, m_12, m_13, m_14, m_15, m_16, m_17, m_18, m_19, m_20, m_21, m_22, m_23, m_24, m_25, m_26, m_27, m_28, m_29, m_30, m_31⟩ := M
  have h : okz m_4 m_6 m_24 m_26 m_27 ∧ (m_0, m_1, m_2, m_3, m_4, m_5, m_6, m_7, m_8) = t := h
  simp only [jn_X7_receive_212]
  repeat' split
  all_goals first | ((with_reducible refine pr_r234 ?_); exact h) | exact h
theorem pr_r156 {t : TxS} {w : Int32} {M : MdS} (h : pr t M) : pr t (jn_X7_receive_156 w M) := by
  obtain ⟨m_0, m_1, m_2, m_3, m_4, m_5, m_6, m_7, m_8, m_9, m_10, m_11, m_12, m_13, m_14, m_15, m_16, m_17, m_18, m_19, m_20, m_21, m_22, m_23, m_24, m_25, m_26, m_27, m_28, m_29, m_30, m_31⟩ := M
  have h : okz m_4 m_6 m_24 m_26 m_27 ∧ (m_0, m_1, m_2, m_3, m_4, m_5, m_6, m_7, m_8) = t := h
  simp only [jn_X7_receive_156]
  split
  · exact pr_r212 h
  · split
    · exact pr_r212 h
    · split
      · exact h
      · rename_i c
        have e := i_ne c
        have z : (300 : Int32).toInt = 300 := rfl
        have w4 := h.1.1
        have q := i_inc m_24 (by omega)
        exact ⟨⟨⟨w4.1, w4.2.1, ⟨show 0 ≤ (m_24 + 1).toInt by omega, show (m_24 + 1).toInt ≤ 300 by omega⟩, w4.2.2.2⟩, h.1.2⟩, h.2⟩
theorem pr_r113 {t : TxS} {w : Int32} {M : MdS} (h : pr t M) : pr t (jn_X7_receive_113 w M) := by
  obtain ⟨m_0, m_1, m_2, m_3, m_4, m_5, m_6, m_7, m_8, m_9, m_10, m_11, m_12, m_13, m_14, m_15, m_16, m_17, m_18, m_19, m_20, m_21, m_22, m_23, m_24, m_25, m_26, m_27, m_28, m_29, m_30, m_31⟩ := M
  have h : okz m_4 m_6 m_24 m_26 m_27 ∧ (m_0, m_1, m_2, m_3, m_4, m_5, m_6, m_7, m_8) = t := h
  have w4 := h.1.1
  exact ⟨⟨⟨w4.1, w4.2.1, ⟨show 0 ≤ (0 : Int32).toInt by decide, show (0 : Int32).toInt ≤ 300 by decide⟩, w4.2.2.2⟩, h.1.2⟩, h.2⟩
theorem pr_r94 {t : TxS} {w : Int32} {M : MdS} (h : pr t M) : pr t (jn_X7_receive_94 w M) := by
  have h1 : pr t (f_X7_end 0 M) := pr_end h
  have h2 : pr t (jn_X7_receive_113 w M) := pr_r113 h
  have h3 : pr t (jn_X7_receive_113 w (f_X7_end 0 M)) := pr_r113 h1
  have h4 : pr t (jn_X7_receive_156 w M) := pr_r156 h
  clear h1
  revert h2 h3 h4
  obtain ⟨m_0, m_1, m_2, m_3, m_4, m_5, m_6, m_7, m_8, m_9, m_10, m_11, m_12, m_13, m_14, m_15, m_16, m_17, m_18, m_19, m_20, m_21, m_22, m_23, m_24, m_25, m_26, m_27, m_28, m_29, m_30, m_31⟩ := M
  have h : okz m_4 m_6 m_24 m_26 m_27 ∧ (m_0, m_1, m_2, m_3, m_4, m_5, m_6, m_7, m_8) = t := h
  intro h2 h3 h4
  by_cases c1 : w = 507
  · by_cases c2 : m_21 = 0
    · simp only [jn_X7_receive_94, ↓if_pos c1, ↓if_pos c2]
      exact h2
    · simp only [jn_X7_receive_94, ↓if_pos c1, ↓if_neg c2]
      exact h3
  · by_cases c2 : m_21 = 0
    · simp only [jn_X7_receive_94, ↓if_neg c1, ↓if_pos c2]
      exact h4
    · by_cases c3 : w = -1
      · simp only [jn_X7_receive_94, ↓if_neg c1, ↓if_neg c2, ↓if_pos c3]
        exact h
      · simp only [jn_X7_receive_94, ↓if_neg c1, ↓if_neg c2, ↓if_neg c3]
        exact h4
theorem pr_r57 {t : TxS} {w : Int32} {M : MdS} (h : pr t M) : pr t (jn_X7_receive_57 w M) := by
  have h1 : pr t (jn_X7_receive_94 w M) := pr_r94 h
  have h2 : pr t (jn_X7_receive_94 w (f_X7_end 1 M)) := pr_r94 (pr_end h)
  have h3 : pr t (jn_X7_receive_94 w (f_X7_end 0 M)) := pr_r94 (pr_end h)
  revert h1 h2 h3
  obtain ⟨m_0, m_1, m_2, m_3, m_4, m_5, m_6, m_7, m_8, m_9, m_10, m_11, m_12, m_13, m_14, m_15, m_16, m_17, m_18, m_19, m_20, m_21, m_22, m_23, m_24, m_25, m_26, m_27, m_28, m_29, m_30, m_31⟩ := M
  have h : okz m_4 m_6 m_24 m_26 m_27 ∧ (m_0, m_1, m_2, m_3, m_4, m_5, m_6, m_7, m_8) = t := h
  intro h1 h2 h3
  by_cases c1 : m_21 = 0
  · simp only [jn_X7_receive_57, ↓if_pos c1]
    exact h1
  · by_cases c2 : m_23 = 0
    · simp only [jn_X7_receive_57, ↓if_neg c1, ↓if_pos c2]
      exact h1
    · by_cases c3 : w = 503
      · by_cases c4 : m_22 = 0
        · simp only [jn_X7_receive_57, ↓if_neg c1, ↓if_neg c2, ↓if_pos c3, ↓if_pos c4]
          exact h2
        · simp only [jn_X7_receive_57, ↓if_neg c1, ↓if_neg c2, ↓if_pos c3, ↓if_neg c4]
          exact h3
      · simp only [jn_X7_receive_57, ↓if_neg c1, ↓if_neg c2, ↓if_neg c3]
        exact h3
theorem pr_lprec {t : TxS} : ∀ (n : Nat) (w k : Int32) (M : MdS), pr t M → pr t (lp_X7_receive_12 n w k M) := by
  intro n
  induction n with
  | zero =>
    intro w k M h
    obtain ⟨m_0, m_1, m_2, m_3, m_4, m_5, m_6, m_7, m_8, m_9, m_10, m_11, m_12, m_13, m_14, m_15, m_16, m_17, m_18, m_19, m_20, m_21, m_22, m_23, m_24, m_25, m_26, m_27, m_28, m_29, m_30, m_31⟩ := M
    exact h
  | succ n ih =>
    intro w k M h
    obtain ⟨m_0, m_1, m_2, m_3, m_4, m_5, m_6, m_7, m_8, m_9, m_10, m_11, m_12, m_13, m_14, m_15, m_16, m_17, m_18, m_19, m_20, m_21, m_22, m_23, m_24, m_25, m_26, m_27, m_28, m_29, m_30, m_31⟩ := M
    have h : okz m_4 m_6 m_24 m_26 m_27 ∧ (m_0, m_1, m_2, m_3, m_4, m_5, m_6, m_7, m_8) = t := h
    simp only [lp_X7_receive_12]
    repeat' split
    all_goals first | ((with_reducible refine pr_r57 ?_); exact h) | ((with_reducible refine ih _ _ _ ?_); exact h)
theorem pr_receive {t : TxS} {w : Int32} {M : MdS} (h : pr t M) : pr t (f_X7_receive w M) := by
  obtain ⟨m_0, m_1, m_2, m_3, m_4, m_5, m_6, m_7, m_8, m_9, m_10, m_11, m_12, m_13, m_14, m_15, m_16, m_17, m_18, m_19, m_20, m_21, m_22, m_23, m_24, m_25, m_26, m_27, m_28, m_29, m_30, m_31⟩ := M
  have h : okz m_4 m_6 m_24 m_26 m_27 ∧ (m_0, m_1, m_2, m_3, m_4, m_5, m_6, m_7, m_8) = t := h
  simp only [f_X7_receive]
  repeat' split
  all_goals first | ((with_reducible refine pr_lprec _ _ _ _ ?_); exact h) | exact h
theorem ok_receive {w : Int32} {M u : MdS} (e : f_X7_receive w M = u) (h : mdOK M) : mdOK u := e ▸ (pr_receive (t := tx M) (M := M) ⟨h, rfl⟩).1


theorem pr_g129 {t : TxS} {v1 v2 v3 v4 v5 v6 : Int32} {M : MdS} (h : pr t M) : pr t (jn_X7_takeGroup_129 v1 v2 v3 v4 v5 v6 M) := by
  obtain ⟨m_0, m_1, m_2, m_3, m_4, m_5, m_6, m_7, m_8, m_9, m_10, m_11, m_12, m_13, m_14, m_15, m_16, m_17, m_18, m_19, m_20, m_21, m_22, m_23, m_24, m_25, m_26, m_27, m_28, m_29, m_30, m_31⟩ := M
  have h : okz m_4 m_6 m_24 m_26 m_27 ∧ (m_0, m_1, m_2, m_3, m_4, m_5, m_6, m_7, m_8) = t := h
  have hr : pr t (f_X7_receive v2 (m_0, m_1, m_2, m_3, m_4, m_5, m_6, m_7, m_8, m_9, m_10, m_11, m_12, 0, m_14, m_15, m_16, m_17, m_18, m_19, m_20, m_21, m_22, m_23, m_24, m_25, m_26, m_27, m_28, m_29, m_30, m_31)) := pr_receive h
  by_cases c1 : v1 = 0
  · by_cases c2 : 3 ≤ m_10
    · simp only [jn_X7_takeGroup_129, ↓if_pos c1, ↓if_pos c2]
      revert hr
      generalize f_X7_receive v2 (m_0, m_1, m_2, m_3, m_4, m_5, m_6, m_7, m_8, m_9, m_10, m_11, m_12, 0, m_14, m_15, m_16, m_17, m_18, m_19, m_20, m_21, m_22, m_23, m_24, m_25, m_26, m_27, m_28, m_29, m_30, m_31) = u
      obtain ⟨n_0, n_1, n_2, n_3, n_4, n_5, n_6, n_7, n_8, n_9, n_10, n_11, n_12, n_13, n_14, n_15, n_16, n_17, n_18, n_19, n_20, n_21, n_22, n_23, n_24, n_25, n_26, n_27, n_28, n_29, n_30, n_31⟩ := u
      intro hr
      have hr : okz n_4 n_6 n_24 n_26 n_27 ∧ (n_0, n_1, n_2, n_3, n_4, n_5, n_6, n_7, n_8) = t := hr
      clear h
      repeat' split
      all_goals first | ((with_reducible refine pr_searchAgain ?_); exact hr) | exact hr
    · clear hr
      simp only [jn_X7_takeGroup_129, ↓if_pos c1, ↓if_neg c2]
      repeat' split
      all_goals first | ((with_reducible refine pr_searchAgain ?_); exact h) | exact h
  · clear hr
    simp only [jn_X7_takeGroup_129, ↓if_neg c1]
    repeat' split
    all_goals first | ((with_reducible refine pr_searchAgain ?_); exact h) | exact h
theorem pr_g113 {t : TxS} {a : Int32} {b : Int32} {c : Int32} {d : Int32} {e : Int32} {f : Int32} {M : MdS} (h : pr t M) : pr t (jn_X7_takeGroup_113 a b c d e f M) := by
  obtain ⟨m_0, m_1, m_2, m_3, m_4, m_5, m_6, m_7, m_8, m_9, m_10, m_11, m_12, m_13, m_14, m_15, m_16, m_17, m_18, m_19, m_20, m_21, m_22, m_23, m_24, m_25, m_26, m_27, m_28, m_29, m_30, m_31⟩ := M
  have h : okz m_4 m_6 m_24 m_26 m_27 ∧ (m_0, m_1, m_2, m_3, m_4, m_5, m_6, m_7, m_8) = t := h
  simp only [jn_X7_takeGroup_113]
  repeat' split
  all_goals first | ((with_reducible refine pr_g129 ?_); exact h) | exact h
theorem pr_g99 {t : TxS} {a : Int32} {b : Int32} {c : Int32} {d : Int32} {e : Int32} {M : MdS} (h : pr t M) : pr t (jn_X7_takeGroup_99 a b c d e M) := by
  obtain ⟨m_0, m_1, m_2, m_3, m_4, m_5, m_6, m_7, m_8, m_9, m_10, m_11, m_12, m_13, m_14, m_15, m_16, m_17, m_18, m_19, m_20, m_21, m_22, m_23, m_24, m_25, m_26, m_27, m_28, m_29, m_30, m_31⟩ := M
  have h : okz m_4 m_6 m_24 m_26 m_27 ∧ (m_0, m_1, m_2, m_3, m_4, m_5, m_6, m_7, m_8) = t := h
  simp only [jn_X7_takeGroup_99]
  repeat' split
  all_goals first | ((with_reducible refine pr_g113 ?_); exact h) | exact h
theorem pr_g56 {t : TxS} {a : Int32} {b : Int32} {c : Int32} {d : Int32} {e : Int32} {M : MdS} (h : pr t M) : pr t (jn_X7_takeGroup_56 a b c d e M) := by
  obtain ⟨m_0, m_1, m_2, m_3, m_4, m_5, m_6, m_7, m_8, m_9, m_10, m_11, m_12, m_13, m_14, m_15, m_16, m_17, m_18, m_19, m_20, m_21, m_22, m_23, m_24, m_25, m_26, m_27, m_28, m_29, m_30, m_31⟩ := M
  have h : okz m_4 m_6 m_24 m_26 m_27 ∧ (m_0, m_1, m_2, m_3, m_4, m_5, m_6, m_7, m_8) = t := h
  simp only [jn_X7_takeGroup_56]
  repeat' split
  all_goals first | ((with_reducible refine pr_g99 ?_); exact h) | exact h
theorem pr_g24 {t : TxS} {a : Int32} {b : Int32} {c : Int32} {M : MdS} (h : pr t M) : pr t (jn_X7_takeGroup_24 a b c M) := by
  obtain ⟨m_0, m_1, m_2, m_3, m_4, m_5, m_6, m_7, m_8, m_9, m_10, m_11, m_12, m_13, m_14, m_15, m_16, m_17, m_18, m_19, m_20, m_21, m_22, m_23, m_24, m_25, m_26, m_27, m_28, m_29, m_30, m_31⟩ := M
  have h : okz m_4 m_6 m_24 m_26 m_27 ∧ (m_0, m_1, m_2, m_3, m_4, m_5, m_6, m_7, m_8) = t := h
  simp only [jn_X7_takeGroup_24, letv]
  repeat' split
  all_goals first | ((with_reducible refine pr_g56 ?_); exact h) | exact h
theorem pr_takeGroup {t : TxS} {a : Int32} {M : MdS} (h : pr t M) : pr t (f_X7_takeGroup a M) := by
  obtain ⟨m_0, m_1, m_2, m_3, m_4, m_5, m_6, m_7, m_8, m_9, m_10, m_11, m_12, m_13, m_14, m_15, m_16, m_17, m_18, m_19, m_20, m_21, m_22, m_23, m_24, m_25, m_26, m_27, m_28, m_29, m_30, m_31⟩ := M
  have h : okz m_4 m_6 m_24 m_26 m_27 ∧ (m_0, m_1, m_2, m_3, m_4, m_5, m_6, m_7, m_8) = t := h
  simp only [f_X7_takeGroup, letv]
  repeat' split
  all_goals first | ((with_reducible refine pr_g24 ?_); exact h) | exact h
theorem ok_takeGroup {a : Int32} {M u : MdS} (e : f_X7_takeGroup a M = u) (h : mdOK M) : mdOK u := e ▸ (pr_takeGroup (t := tx M) (M := M) ⟨h, rfl⟩).1


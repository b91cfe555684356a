abbrev TxS : Type := (Nat → Int32) × (Nat → Int32) × (Nat → Int32) × (Nat → Int32) × Int32 × (Nat → Int32) × Int32 × Int32 × Int32
/-- the sending side of the reference -/
def tx (M : MdS) : TxS := (M.1, M.2.1, M.2.2.1, M.2.2.2.1, M.2.2.2.2.1, M.2.2.2.2.2.1, M.2.2.2.2.2.2.1, M.2.2.2.2.2.2.2.1, M.2.2.2.2.2.2.2.2.1)
def pr (t : TxS) (M : MdS) : Prop := mdOK M ∧ tx M = t
def prE (t : TxS) (M : MdS) : Prop := (mdOK M ∧ (M.2.2.2.2.2.2.2.2.2.2.2.2.2.2.2.2.2.2.2.2.2.2.2.2.2.2.1).toInt ≤ 39) ∧ tx M = t
theorem pr_lp157 {t : TxS} : ∀ (n : Nat) (k : Int32) (M : MdS), prE t M → pr t (lp_X7_end_157 n k M) := by
  intro n
  induction n with
  | zero =>
    intro k M h
    obtain ⟨m_0, m_1, m_2, m_3, m_4, m_5, m_6, m_7, m_8, m_9, m_10, m_11, m_12, m_13, m_14, m_15, m_16, m_17, m_18, m_19, m_20, m_21, m_22, m_23, m_24, m_25, m_26, m_27, m_28, m_29, m_30, m_31⟩ := M
    exact ⟨h.1.1, h.2⟩
  | succ n ih =>
    intro k M h
    obtain ⟨m_0, m_1, m_2, m_3, m_4, m_5, m_6, m_7, m_8, m_9, m_10, m_11, m_12, m_13, m_14, m_15, m_16, m_17, m_18, m_19, m_20, m_21, m_22, m_23, m_24, m_25, m_26, m_27, m_28, m_29, m_30, m_31⟩ := M
    have h : (okz m_4 m_6 m_24 m_26 m_27 ∧ m_26.toInt ≤ 39) ∧ (m_0, m_1, m_2, m_3, m_4, m_5, m_6, m_7, m_8) = t := h
    by_cases c : m_24 ≤ k
    · simp only [lp_X7_end_157, ↓if_pos c]
      have w := h.1.1.1
      have q := i_inc m_26 (by omega)
      exact ⟨⟨⟨w.1, w.2.1, w.2.2.1, show 0 ≤ (m_26 + 1).toInt by omega, show (m_26 + 1).toInt ≤ 40 by have := h.1.2; omega⟩, h.1.1.2⟩, h.2⟩
    · simp only [lp_X7_end_157, ↓if_neg c]
      exact ih _ _ h
theorem pr_j132 {t : TxS} {w : Int32} {M : MdS} (h : prE t M) : pr t (jn_X7_end_132 w M) := by
  obtain ⟨m_0, m_1, m_2, m_3, m_4, m_5, m_6, m_7, m_8, m_9, m_10, m_11, m_12, m_13, m_14, m_15, m_16, m_17, m_18, m_19, m_20, m_21, m_22, m_23, m_24, m_25, m_26, m_27, m_28, m_29, m_30, m_31⟩ := M
  have h : (okz m_4 m_6 m_24 m_26 m_27 ∧ m_26.toInt ≤ 39) ∧ (m_0, m_1, m_2, m_3, m_4, m_5, m_6, m_7, m_8) = t := h
  simp only [jn_X7_end_132]
  refine pr_lp157 _ _ _ ⟨⟨⟨h.1.1.1, fun j => ?_⟩, h.1.2⟩, h.2⟩
  show (upd m_27 m_26.toNatClampNeg m_24 j).toInt ≤ 300
  unfold upd
  split
  · exact h.1.1.1.2.2.1.2
  · exact h.1.1.2 j
theorem pr_lp98 {t : TxS} : ∀ (n : Nat) (w k : Int32) (M : MdS), prE t M → pr t (lp_X7_end_98 n w k M) := by
  intro n
  induction n with
  | zero =>
    intro w k M h
    obtain ⟨m_0, m_1, m_2, m_3, m_4, m_5, m_6, m_7, m_8, m_9, m_10, m_11, m_12, m_13, m_14, m_15, m_16, m_17, m_18, m_19, m_20, m_21, m_22, m_23, m_24, m_25, m_26, m_27, m_28, m_29, m_30, m_31⟩ := M
    exact ⟨h.1.1, h.2⟩
  | succ n ih =>
    intro w k M h
    obtain ⟨m_0, m_1, m_2, m_3, m_4, m_5, m_6, m_7, m_8, m_9, m_10, m_11, m_12, m_13, m_14, m_15, m_16, m_17, m_18, m_19, m_20, m_21, m_22, m_23, m_24, m_25, m_26, m_27, m_28, m_29, m_30, m_31⟩ := M
    have h : (okz m_4 m_6 m_24 m_26 m_27 ∧ m_26.toInt ≤ 39) ∧ (m_0, m_1, m_2, m_3, m_4, m_5, m_6, m_7, m_8) = t := h
    by_cases c : 300 * m_26 ≤ k
    · simp only [lp_X7_end_98, ↓if_pos c]
      exact pr_j132 h
    · simp only [lp_X7_end_98, ↓if_neg c]
      exact ih _ _ _ h
theorem pr_lp54 {t : TxS} : ∀ (n : Nat) (w k : Int32) (M : MdS), prE t M → pr t (lp_X7_end_54 n w k M) := by
  intro n
  induction n with
  | zero =>
    intro w k M h
    obtain ⟨m_0, m_1, m_2, m_3, m_4, m_5, m_6, m_7, m_8, m_9, m_10, m_11, m_12, m_13, m_14, m_15, m_16, m_17, m_18, m_19, m_20, m_21, m_22, m_23, m_24, m_25, m_26, m_27, m_28, m_29, m_30, m_31⟩ := M
    exact ⟨h.1.1, h.2⟩
  | succ n ih =>
    intro w k M h
    obtain ⟨m_0, m_1, m_2, m_3, m_4, m_5, m_6, m_7, m_8, m_9, m_10, m_11, m_12, m_13, m_14, m_15, m_16, m_17, m_18, m_19, m_20, m_21, m_22, m_23, m_24, m_25, m_26, m_27, m_28, m_29, m_30, m_31⟩ := M
    have h : (okz m_4 m_6 m_24 m_26 m_27 ∧ m_26.toInt ≤ 39) ∧ (m_0, m_1, m_2, m_3, m_4, m_5, m_6, m_7, m_8) = t := h
    by_cases c : m_26 ≤ k
    · simp only [lp_X7_end_54, ↓if_pos c]
      exact pr_lp98 _ _ _ _ h
    · simp only [lp_X7_end_54, ↓if_neg c]
      refine ih _ _ _ ⟨⟨⟨h.1.1.1, fun j => ?_⟩, h.1.2⟩, h.2⟩
      show (upd m_27 k.toNatClampNeg (m_27 (k + 1).toNatClampNeg) j).toInt ≤ 300
      unfold upd
      split
      · exact h.1.1.2 _
      · exact h.1.1.2 j
theorem pr_j33 {t : TxS} {w : Int32} {M : MdS} (h : pr t M) : pr t (jn_X7_end_33 w M) := by
  obtain ⟨m_0, m_1, m_2, m_3, m_4, m_5, m_6, m_7, m_8, m_9, m_10, m_11, m_12, m_13, m_14, m_15, m_16, m_17, m_18, m_19, m_20, m_21, m_22, m_23, m_24, m_25, m_26, m_27, m_28, m_29, m_30, m_31⟩ := M
  have h : okz m_4 m_6 m_24 m_26 m_27 ∧ (m_0, m_1, m_2, m_3, m_4, m_5, m_6, m_7, m_8) = t := h
  have z40 : (40 : Int32).toInt = 40 := rfl
  have z1 : (1 : Int32).toInt = 1 := rfl
  have w4 := h.1.1
  by_cases c : m_26 = 40
  · have e := congrArg Int32.toInt c
    have q := i_sub m_26 1 (by omega)
    simp only [jn_X7_end_33, ↓if_pos c]
    exact pr_lp54 _ _ _ _ ⟨⟨⟨⟨w4.1, w4.2.1, w4.2.2.1, show 0 ≤ (m_26 - 1).toInt by omega, show (m_26 - 1).toInt ≤ 40 by omega⟩, h.1.2⟩, show (m_26 - 1).toInt ≤ 39 by omega⟩, h.2⟩
  · have e := i_ne c
    simp only [jn_X7_end_33, ↓if_neg c]
    exact pr_j132 ⟨⟨h.1, show m_26.toInt ≤ 39 by omega⟩, h.2⟩
theorem pr_end {t : TxS} {w : Int32} {M : MdS} (h : pr t M) : pr t (f_X7_end w M) := by
  obtain ⟨m_0, m_1, m_2, m_3, m_4, m_5, m_6, m_7, m_8, m_9, m_10, m_11, m_12, m_13, m_14, m_15, m_16, m_17, m_18, m_19, m_20, m_21, m_22, m_23, m_24, m_25, m_26, m_27, m_28, m_29, m_30, m_31⟩ := M
  have h : okz m_4 m_6 m_24 m_26 m_27 ∧ (m_0, m_1, m_2, m_3, m_4, m_5, m_6, m_7, m_8) = t := h
  simp only [f_X7_end]
  repeat' split
  all_goals first | ((with_reducible refine pr_j33 ?_); exact h) | exact h
theorem ok_end {w : Int32} {M u : MdS} (e : f_X7_end w M = u) (h : mdOK M) : mdOK u := e ▸ (pr_end (t := tx M) (M := M) ⟨h, rfl⟩).1


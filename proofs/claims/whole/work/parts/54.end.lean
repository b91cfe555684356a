theorem fin_eq {a : Int32} {w0 w1 w2 : Nat → Int32} {s k2 : Nat} {w5 w6 w7 w8 : Int32} (hs : s < 41) (hk : k2 ≤ 40) : f_X1_finish a (w0, w1, w2, nI s, nI k2, w5, w6, w7, w8) = (w0, w1, upd w2 s (vp_nar .boolean a), nI ((s + 1) % 41), nI (min (k2 + 1) 40), 0, w6, w7 + 1, if a = 0 then w8 else w8 + 1) := by
  have e : (nI s).toNatClampNeg = s := nI_clamp (by omega)
  have zs := nI_toInt (n := s) (by omega)
  have g1 : ¬ nI s < 0 := fun w => by have q := i_lt w; have z : (0 : Int32).toInt = 0 := rfl; omega
  have g2 : nI s < 41 := nI_lt (b := 41) (by omega) (by decide)
  have fs : ((41 : Int32) ≤ nI s + 1 ∧ nI ((s + 1) % 41) = 0) ∨ (¬ (41 : Int32) ≤ nI s + 1 ∧ nI ((s + 1) % 41) = nI s + 1) := by
    by_cases c : s = 40
    · subst c; left; exact ⟨by decide, rfl⟩
    · right
      rw [nI_1]
      refine ⟨nI_ge (b := 41) (by omega) (by decide), ?_⟩
      rw [show (s + 1) % 41 = s + 1 by omega]
  have fk : ((40 : Int32) ≤ nI k2 ∧ nI (min (k2 + 1) 40) = nI k2) ∨ (¬ (40 : Int32) ≤ nI k2 ∧ nI (min (k2 + 1) 40) = nI k2 + 1) := by
    by_cases c : k2 = 40
    · subst c; left; exact ⟨by decide, rfl⟩
    · right
      rw [nI_1]
      refine ⟨nI_ge (b := 40) (by omega) (by decide), ?_⟩
      rw [show min (k2 + 1) 40 = k2 + 1 by omega]
  rcases fs with ⟨f1, f2⟩ | ⟨f1, f2⟩ <;> rcases fk with ⟨f3, f4⟩ | ⟨f3, f4⟩ <;> by_cases ca : a = 0 <;> rw [f2, f4]
  · simp only [f_X1_finish, ↓if_neg g1, ↓if_pos g2, ↓if_pos f1, ↓if_pos f3, ↓if_pos ca, e]
  · simp only [f_X1_finish, ↓if_neg g1, ↓if_pos g2, ↓if_pos f1, ↓if_pos f3, ↓if_neg ca, e]
  · simp only [f_X1_finish, ↓if_neg g1, ↓if_pos g2, ↓if_pos f1, ↓if_neg f3, ↓if_pos ca, e]
  · simp only [f_X1_finish, ↓if_neg g1, ↓if_pos g2, ↓if_pos f1, ↓if_neg f3, ↓if_neg ca, e]
  · simp only [f_X1_finish, ↓if_neg g1, ↓if_pos g2, ↓if_neg f1, ↓if_pos f3, ↓if_pos ca, e]
  · simp only [f_X1_finish, ↓if_neg g1, ↓if_pos g2, ↓if_neg f1, ↓if_pos f3, ↓if_neg ca, e]
  · simp only [f_X1_finish, ↓if_neg g1, ↓if_pos g2, ↓if_neg f1, ↓if_neg f3, ↓if_pos ca, e]
  · simp only [f_X1_finish, ↓if_neg g1, ↓if_pos g2, ↓if_neg f1, ↓if_neg f3, ↓if_neg ca, e]
theorem end7 {a : Int32} {len k2 : Nat} {m_0 : Nat → Int32} {m_1 : Nat → Int32} {m_2 : Nat → Int32} {m_3 : Nat → Int32} {m_4 : Int32} {m_5 : Nat → Int32} {m_6 : Int32} {m_7 : Int32} {m_8 : Int32} {m_9 : Int32} {m_10 : Int32} {m_11 : Int32} {m_12 : Int32} {m_13 : Int32} {m_14 : Int32} {m_15 : Int32} {m_16 : Int32} {m_17 : Int32} {m_18 : Int32} {m_19 : Int32} {m_20 : Nat → Int32} {m_21 : Int32} {m_22 : Int32} {m_23 : Int32} {m_25 : Nat → Int32} {m_27 : Nat → Int32} {m_28 : Nat → Int32} {m_29 : Nat → Int32} {m_30 : Int32} {m_31 : Int32} (hl : len ≤ 300) (hk : k2 ≤ 40) (h0 : ∀ j, (m_27 j).toInt ≤ 300) : ∃ (k' o : Nat) (g27 g28 g29 : Nat → Int32), k2 = k' + o ∧ k' ≤ 39 ∧ min (k2 + 1) 40 = k' + 1 ∧ (∀ j, (g27 j).toInt ≤ 300) ∧ (∀ i, i < k' → g27 i = m_27 (i + o) ∧ (g28 i = m_28 (i + o) ∨ g28 i = vp_nar .boolean (m_28 (i + o))) ∧ ∀ j, j < 300 → g29 (300 * i + j) &&& 255 = m_29 (300 * (i + o) + j) &&& 255) ∧ g27 k' = nI len ∧ g28 k' = vp_nar .boolean a ∧ (∀ j, j < len → g29 (300 * k' + j) &&& 255 = m_25 j &&& 255) ∧ f_X7_end a (m_0, m_1, m_2, m_3, m_4, m_5, m_6, m_7, m_8, m_9, m_10, m_11, m_12, m_13, m_14, m_15, m_16, m_17, m_18, m_19, m_20, m_21, m_22, m_23, nI len, m_25, nI k2, m_27, m_28, m_29, m_30, m_31) = (m_0, m_1, m_2, m_3, m_4, m_5, m_6, m_7, m_8, m_9, m_10, m_11, m_12, m_13, m_14, m_15, m_16, m_17, m_18, m_19, m_20, 0, m_22, m_23, nI len, m_25, nI (min (k2 + 1) 40), g27, g28, g29, m_30 + 1, (if a = 0 then m_31 else m_31 + 1)) := by
  have e0 : f_X7_end a (m_0, m_1, m_2, m_3, m_4, m_5, m_6, m_7, m_8, m_9, m_10, m_11, m_12, m_13, m_14, m_15, m_16, m_17, m_18, m_19, m_20, m_21, m_22, m_23, nI len, m_25, nI k2, m_27, m_28, m_29, m_30, m_31) = jn_X7_end_33 a (m_0, m_1, m_2, m_3, m_4, m_5, m_6, m_7, m_8, m_9, m_10, m_11, m_12, m_13, m_14, m_15, m_16, m_17, m_18, m_19, m_20, 0, m_22, m_23, nI len, m_25, nI k2, m_27, m_28, m_29, m_30 + 1, (if a = 0 then m_31 else m_31 + 1)) := by
    by_cases ca : a = 0
    · simp only [f_X7_end, ↓if_pos ca, Int32.add_zero]
    · simp only [f_X7_end, ↓if_neg ca]
  have hl3 : (nI len).toInt ≤ 300 := by rw [nI_toInt (by omega)]; omega
  have hu : ∀ (f : Nat → Int32) (k : Nat), (∀ j, (f j).toInt ≤ 300) → ∀ j, (upd f k (nI len) j).toInt ≤ 300 := by
    intro f k hf j
    by_cases ej : j = k
    · subst ej; rw [pk_us]; exact hl3
    · rw [pk_un ej]; exact hf j
  by_cases c : k2 = 40
  · subst c
    have c1 : nI 40 = 40 := rfl
    have c2 : nI 40 - 1 = nI 39 := rfl
    obtain ⟨g, h, p0, p1, p2, p3⟩ := end_heads 40 0 a m_27 m_28 m_0 m_1 m_2 m_3 m_4 m_5 m_6 m_7 m_8 m_9 m_10 m_11 m_12 m_13 m_14 m_15 m_16 m_17 m_18 m_19 m_20 0 m_22 m_23 (nI len) m_25 m_29 (m_30 + 1) (if a = 0 then m_31 else m_31 + 1) h0 (by omega) (by omega)
    obtain ⟨g29, q1, q2, q3⟩ := end_bytes 11701 0 a m_29 m_0 m_1 m_2 m_3 m_4 m_5 m_6 m_7 m_8 m_9 m_10 m_11 m_12 m_13 m_14 m_15 m_16 m_17 m_18 m_19 m_20 0 m_22 m_23 (nI len) m_25 g h (m_30 + 1) (if a = 0 then m_31 else m_31 + 1) (by omega) (by omega)
    obtain ⟨g2, r1, r2, r3⟩ := end_put (a := a) (len := len) (k2 := 39) (m_0 := m_0) (m_1 := m_1) (m_2 := m_2) (m_3 := m_3) (m_4 := m_4) (m_5 := m_5) (m_6 := m_6) (m_7 := m_7) (m_8 := m_8) (m_9 := m_9) (m_10 := m_10) (m_11 := m_11) (m_12 := m_12) (m_13 := m_13) (m_14 := m_14) (m_15 := m_15) (m_16 := m_16) (m_17 := m_17) (m_18 := m_18) (m_19 := m_19) (m_20 := m_20) (m_21 := 0) (m_22 := m_22) (m_23 := m_23) (m_25 := m_25) (m_27 := g) (m_28 := h) (m_29 := g29) (m_30 := (m_30 + 1)) (m_31 := (if a = 0 then m_31 else m_31 + 1)) hl (by omega)
    refine ⟨39, 1, upd g 39 (nI len), upd h 39 (vp_nar .boolean a), g2, rfl, by omega, rfl, hu _ _ p0, ?_, pk_us, pk_us, r2, ?_⟩
    · intro i hi
      have q := p2 i (by omega) hi
      refine ⟨?_, ?_, ?_⟩
      · rw [pk_un (by omega)]; exact q.1
      · rw [pk_un (by omega)]; exact Or.inr q.2
      · intro j hj
        rw [r1 _ (by omega), q2 _ (by omega) (by omega), show 300 * i + j + 300 = 300 * (i + 1) + j by omega]
    · rw [e0]
      rw [nI_0] at p3 q3
      simp only [jn_X7_end_33, ↓if_pos c1, c2]
      rw [p3, q3, r3]
      rfl
  · have c1 : ¬ nI k2 = 40 := fun w => c ((nI_eq (b := 40) (by omega) (by decide)).mp w)
    obtain ⟨g2, r1, r2, r3⟩ := end_put (a := a) (len := len) (k2 := k2) (m_0 := m_0) (m_1 := m_1) (m_2 := m_2) (m_3 := m_3) (m_4 := m_4) (m_5 := m_5) (m_6 := m_6) (m_7 := m_7) (m_8 := m_8) (m_9 := m_9) (m_10 := m_10) (m_11 := m_11) (m_12 := m_12) (m_13 := m_13) (m_14 := m_14) (m_15 := m_15) (m_16 := m_16) (m_17 := m_17) (m_18 := m_18) (m_19 := m_19) (m_20 := m_20) (m_21 := 0) (m_22 := m_22) (m_23 := m_23) (m_25 := m_25) (m_27 := m_27) (m_28 := m_28) (m_29 := m_29) (m_30 := (m_30 + 1)) (m_31 := (if a = 0 then m_31 else m_31 + 1)) hl (by omega)
    refine ⟨k2, 0, upd m_27 k2 (nI len), upd m_28 k2 (vp_nar .boolean a), g2, rfl, by omega, by omega, hu _ _ h0, ?_, pk_us, pk_us, r2, ?_⟩
    · intro i hi
      refine ⟨?_, ?_, ?_⟩
      · rw [pk_un (by omega)]; rfl
      · rw [pk_un (by omega)]; exact Or.inl rfl
      · intro j hj
        rw [r1 _ (by omega)]; rfl
    · rw [e0, show min (k2 + 1) 40 = k2 + 1 by omega]
      simp only [jn_X7_end_33, ↓if_neg c1]
      exact r3
theorem end_sim {a : Int32} {w0 w1 w2 : Nat → Int32} {w3 w4 w5 w6 w7 w8 : Int32} {m_0 : Nat → Int32} {m_1 : Nat → Int32} {m_2 : Nat → Int32} {m_3 : Nat → Int32} {m_4 : Int32} {m_5 : Nat → Int32} {m_6 : Int32} {m_7 : Int32} {m_8 : Int32} {m_9 : Int32} {m_10 : Int32} {m_11 : Int32} {m_12 : Int32} {m_13 : Int32} {m_14 : Int32} {m_15 : Int32} {m_16 : Int32} {m_17 : Int32} {m_18 : Int32} {m_19 : Int32} {m_20 : Nat → Int32} {m_21 : Int32} {m_22 : Int32} {m_23 : Int32} {m_24 : Int32} {m_25 : Nat → Int32} {m_26 : Int32} {m_27 : Nat → Int32} {m_28 : Nat → Int32} {m_29 : Nat → Int32} {m_30 : Int32} {m_31 : Int32} (ha : a = 0 ∨ a = 1) (h : RSh w0 w1 w2 w3 w4 w5 w6 w7 w8 m_21 m_22 m_23 m_24 m_25 m_26 m_27 m_28 m_29 m_30 m_31) (ho : ¬ m_21 = 0) : ∃ (v2 : Nat → Int32) (v3 v4 v8 g26 : Int32) (g27 g28 g29 : Nat → Int32) (g31 : Int32), f_X1_finish a (w0, w1, w2, w3, w4, w5, w6, w7, w8) = (w0, w1, v2, v3, v4, 0, w6, w7 + 1, v8) ∧ f_X7_end a (m_0, m_1, m_2, m_3, m_4, m_5, m_6, m_7, m_8, m_9, m_10, m_11, m_12, m_13, m_14, m_15, m_16, m_17, m_18, m_19, m_20, m_21, m_22, m_23, m_24, m_25, m_26, m_27, m_28, m_29, m_30, m_31) = (m_0, m_1, m_2, m_3, m_4, m_5, m_6, m_7, m_8, m_9, m_10, m_11, m_12, m_13, m_14, m_15, m_16, m_17, m_18, m_19, m_20, 0, m_22, m_23, m_24, m_25, g26, g27, g28, g29, m_30 + 1, g31) ∧ RSh w0 w1 v2 v3 v4 0 w6 (w7 + 1) v8 0 m_22 m_23 m_24 m_25 g26 g27 g28 g29 (m_30 + 1) g31 := by
  obtain ⟨s, k2, d1, d2, d3, d4, d5, d6, d7, d8, d9, d10, d11⟩ := h
  subst d3
  subst d4
  subst d5
  subst d6
  subst d7
  obtain ⟨len, hj, el⟩ := nI_of (x := m_24) (fun w => by have q := i_lt w; have z : (0 : Int32).toInt = 0 := rfl; omega)
  subst el
  have zl := nI_toInt (n := len) hj
  have hl : len ≤ 300 := by omega
  rcases d11 with ⟨_, o1⟩ | ⟨o1, o2, o3, o4, o5, o6⟩
  · exact absurd o1 ho
  obtain ⟨k', o, g27, g28, g29, p1, p2, p3, p4, p5, p6, p7, p8, p9⟩ := end7 (a := a) (len := len) (k2 := k2) (m_0 := m_0) (m_1 := m_1) (m_2 := m_2) (m_3 := m_3) (m_4 := m_4) (m_5 := m_5) (m_6 := m_6) (m_7 := m_7) (m_8 := m_8) (m_9 := m_9) (m_10 := m_10) (m_11 := m_11) (m_12 := m_12) (m_13 := m_13) (m_14 := m_14) (m_15 := m_15) (m_16 := m_16) (m_17 := m_17) (m_18 := m_18) (m_19 := m_19) (m_20 := m_20) (m_21 := m_21) (m_22 := m_22) (m_23 := m_23) (m_25 := m_25) (m_27 := m_27) (m_28 := m_28) (m_29 := m_29) (m_30 := w7) (m_31 := w8) hl d2 d9
  refine ⟨upd w2 s (vp_nar .boolean a), nI ((s + 1) % 41), nI (min (k2 + 1) 40), if a = 0 then w8 else w8 + 1, nI (min (k2 + 1) 40), g27, g28, g29, if a = 0 then w8 else w8 + 1, fin_eq d1 d2, p9, ?_⟩
  refine ⟨(s + 1) % 41, k' + 1, by omega, by omega, rfl, by rw [p3], by rw [p3], rfl, rfl, d8, p4, ?_, Or.inl ⟨rfl, rfl⟩⟩
  intro i hi
  by_cases ci : i < k'
  · obtain ⟨l', x1, x2, x3, x4, x5, x6⟩ := d10 (i + o) (by omega)
    have ei : ((s + 1) % 41 + 41 - (k' + 1) + i) % 41 = (s + 41 - k2 + (i + o)) % 41 := by omega
    obtain ⟨y1, y2, y3⟩ := p5 i ci
    have y2' : g28 i = m_28 (i + o) := by
      rcases y2 with y | y
      · exact y
      · rw [y, narb x5]
    rw [ei]
    refine ⟨l', x1, x2, by rw [y1, x3], ?_, by rw [y2']; exact x5, ?_⟩
    · rw [pk_un (by omega), y2', x4]
    · intro j hj
      rw [y3 j (by omega), x6 j hj]
  · have ei : ((s + 1) % 41 + 41 - (k' + 1) + i) % 41 = s := by omega
    have ej : i = k' := by omega
    subst ej
    rw [ei]
    refine ⟨len, hl, o5, p6, by rw [pk_us, p7], by rw [p7, narb ha]; exact ha, ?_⟩
    intro j hj
    rw [p8 j hj]
    exact o6 j (by omega)

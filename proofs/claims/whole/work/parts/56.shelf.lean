theorem rs_op {w0 w1 w2 : Nat → Int32} {w3 w4 w5 w6 w7 w8 : Int32} {m_21 m_22 m_23 m_24 : Int32} {m_25 : Nat → Int32} {m_26 : Int32} {m_27 m_28 m_29 : Nat → Int32} {m_30 m_31 : Int32} (h : RSh w0 w1 w2 w3 w4 w5 w6 w7 w8 m_21 m_22 m_23 m_24 m_25 m_26 m_27 m_28 m_29 m_30 m_31) : (w5 = 0 ∧ m_21 = 0) ∨ (m_21 = 1 ∧ ((w5 = 1 ∧ m_23 = 0) ∨ (w5 = 2 ∧ m_23 = 1)) ∧ w6 = m_22 ∧ (m_22 = 0 ∨ m_22 = 1)) := by
  obtain ⟨s, k2, d1, d2, d3, d4, d5, d6, d7, d8, d9, d10, d11⟩ := h
  rcases d11 with o | ⟨o1, o2, o3, o4, o5, o6⟩
  · exact Or.inl o
  · exact Or.inr ⟨o1, o2, o3, o4⟩
theorem rs_brk {w0 w1 w2 : Nat → Int32} {w3 w4 w5 w6 w7 w8 : Int32} {m_21 m_22 m_23 m_24 : Int32} {m_25 : Nat → Int32} {m_26 : Int32} {m_27 m_28 m_29 : Nat → Int32} {m_30 m_31 : Int32} (h : RSh w0 w1 w2 w3 w4 w5 w6 w7 w8 m_21 m_22 m_23 m_24 m_25 m_26 m_27 m_28 m_29 m_30 m_31) : RSh w0 w1 w2 w3 w4 w5 1 w7 w8 m_21 1 m_23 m_24 m_25 m_26 m_27 m_28 m_29 m_30 m_31 := by
  obtain ⟨s, k2, d1, d2, d3, d4, d5, d6, d7, d8, d9, d10, d11⟩ := h
  refine ⟨s, k2, d1, d2, d3, d4, d5, d6, d7, d8, d9, d10, ?_⟩
  rcases d11 with o | ⟨o1, o2, o3, o4, o5, o6⟩
  · exact Or.inl o
  · exact Or.inr ⟨o1, o2, rfl, Or.inr rfl, o5, o6⟩
theorem rs_cls {w0 w1 w2 : Nat → Int32} {w3 w4 w5 w6 w7 w8 : Int32} {m_21 m_22 m_23 m_24 : Int32} {m_25 : Nat → Int32} {m_26 : Int32} {m_27 m_28 m_29 : Nat → Int32} {m_30 m_31 : Int32} (h : RSh w0 w1 w2 w3 w4 w5 w6 w7 w8 m_21 m_22 m_23 m_24 m_25 m_26 m_27 m_28 m_29 m_30 m_31) (ho : ¬ m_21 = 0) : RSh w0 w1 w2 w3 w4 2 w6 w7 w8 m_21 m_22 1 m_24 m_25 m_26 m_27 m_28 m_29 m_30 m_31 := by
  obtain ⟨s, k2, d1, d2, d3, d4, d5, d6, d7, d8, d9, d10, d11⟩ := h
  refine ⟨s, k2, d1, d2, d3, d4, d5, d6, d7, d8, d9, d10, ?_⟩
  rcases d11 with ⟨_, o⟩ | ⟨o1, o2, o3, o4, o5, o6⟩
  · exact absurd o ho
  · exact Or.inr ⟨o1, Or.inr ⟨rfl, rfl⟩, o3, o4, o5, o6⟩
theorem begin_sim {w0 w1 w2 : Nat → Int32} {w3 w4 w5 w6 w7 w8 : Int32} {m_0 : Nat → Int32} {m_1 : Nat → Int32} {m_2 : Nat → Int32} {m_3 : Nat → Int32} {m_4 : Int32} {m_5 : Nat → Int32} {m_6 : Int32} {m_7 : Int32} {m_8 : Int32} {m_9 : Int32} {m_10 : Int32} {m_11 : Int32} {m_12 : Int32} {m_13 : Int32} {m_14 : Int32} {m_15 : Int32} {m_16 : Int32} {m_17 : Int32} {m_18 : Int32} {m_19 : Int32} {m_20 : Nat → Int32} {m_21 : Int32} {m_22 : Int32} {m_23 : Int32} {m_24 : Int32} {m_25 : Nat → Int32} {m_26 : Int32} {m_27 : Nat → Int32} {m_28 : Nat → Int32} {m_29 : Nat → Int32} {m_30 : Int32} {m_31 : Int32} {v : Int32} (h : RSh w0 w1 w2 w3 w4 w5 w6 w7 w8 m_21 m_22 m_23 m_24 m_25 m_26 m_27 m_28 m_29 m_30 m_31) : ∃ (v0 v1 v2 : Nat → Int32) (v3 v4 v5 v6 v7 v8 n21 n22 n23 n24 : Int32) (n25 : Nat → Int32) (n26 : Int32) (n27 n28 n29 : Nat → Int32) (n30 n31 : Int32), f_X1_begin (w0, w1, w2, w3, w4, w5, w6, w7, w8) = (v0, v1, v2, v3, v4, v5, v6, v7, v8) ∧ jn_X7_receive_113 v (m_0, m_1, m_2, m_3, m_4, m_5, m_6, m_7, m_8, m_9, m_10, m_11, m_12, m_13, m_14, m_15, m_16, m_17, m_18, m_19, m_20, m_21, m_22, m_23, m_24, m_25, m_26, m_27, m_28, m_29, m_30, m_31) = (m_0, m_1, m_2, m_3, m_4, m_5, m_6, m_7, m_8, m_9, m_10, m_11, m_12, m_13, m_14, m_15, m_16, m_17, m_18, m_19, m_20, n21, n22, n23, n24, n25, n26, n27, n28, n29, n30, n31) ∧ RSh v0 v1 v2 v3 v4 v5 v6 v7 v8 n21 n22 n23 n24 n25 n26 n27 n28 n29 n30 n31 := by
  obtain ⟨s, k2, d1, d2, d3, d4, d5, d6, d7, d8, d9, d10, d11⟩ := h
  subst d3
  have e : (nI s).toNatClampNeg = s := nI_clamp (by omega)
  have zs := nI_toInt (n := s) (by omega)
  have g1 : ¬ nI s < 0 := fun w => by have q := i_lt w; have z : (0 : Int32).toInt = 0 := rfl; omega
  have g2 : nI s < 41 := nI_lt (b := 41) (by omega) (by decide)
  refine ⟨w0, upd w1 s 0, w2, nI s, w4, 1, 0, w7, w8, 1, 0, 0, 0, m_25, m_26, m_27, m_28, m_29, m_30, m_31, ?_, ?_, ?_⟩
  · simp only [f_X1_begin, ↓if_neg g1, ↓if_pos g2, e]
  · simp only [jn_X7_receive_113]
  · refine ⟨s, k2, d1, d2, rfl, d4, d5, d6, d7, ⟨by decide, by decide⟩, d9, ?_, Or.inr ⟨rfl, Or.inl ⟨rfl, rfl⟩, rfl, Or.inl rfl, pk_us, ?_⟩⟩
    · intro i hi
      obtain ⟨l', x1, x2, x3⟩ := d10 i hi
      exact ⟨l', x1, by rw [pk_un (by omega)]; exact x2, x3⟩
    · intro j hj
      have z : (0 : Int32).toInt = 0 := rfl
      omega
theorem byteAt_upd {wd : Nat → Int32} {s s' len j : Nat} {b : Int32} (hl : len < 300) (hj : j < 300) : byteAt (upd wd (75 * s + len / 4) ((wd (75 * s + len / 4) &&& (((255 : Int32) <<< (nI (8 * (len % 4)) &&& 31)) ^^^ (-1))) ||| ((b &&& 255) <<< (nI (8 * (len % 4)) &&& 31)))) s' j = if s' = s ∧ j = len then b &&& 255 else byteAt wd s' j := by
  unfold byteAt
  by_cases c : 75 * s' + j / 4 = 75 * s + len / 4
  · rw [c, pk_us, byte_upd _ _ _ _ (by omega) (by omega)]
    by_cases c2 : len % 4 = j % 4
    · rw [if_pos c2, if_pos (by omega)]
    · rw [if_neg c2, if_neg (by omega)]
  · rw [pk_un c, if_neg (by omega)]
theorem add_sim {w0 w1 w2 : Nat → Int32} {w3 w4 w5 w6 w7 w8 : Int32} {m_0 : Nat → Int32} {m_1 : Nat → Int32} {m_2 : Nat → Int32} {m_3 : Nat → Int32} {m_4 : Int32} {m_5 : Nat → Int32} {m_6 : Int32} {m_7 : Int32} {m_8 : Int32} {m_9 : Int32} {m_10 : Int32} {m_11 : Int32} {m_12 : Int32} {m_13 : Int32} {m_14 : Int32} {m_15 : Int32} {m_16 : Int32} {m_17 : Int32} {m_18 : Int32} {m_19 : Int32} {m_20 : Nat → Int32} {m_21 : Int32} {m_22 : Int32} {m_23 : Int32} {m_24 : Int32} {m_25 : Nat → Int32} {m_26 : Int32} {m_27 : Nat → Int32} {m_28 : Nat → Int32} {m_29 : Nat → Int32} {m_30 : Int32} {m_31 : Int32} {v : Int32} (h : RSh w0 w1 w2 w3 w4 w5 w6 w7 w8 m_21 m_22 m_23 m_24 m_25 m_26 m_27 m_28 m_29 m_30 m_31) (ho : ¬ m_21 = 0) (hv : ¬ (256 : Int32) ≤ v) : ∃ (v0 v1 v2 : Nat → Int32) (v3 v4 v5 v6 v7 v8 n21 n22 n23 n24 : Int32) (n25 : Nat → Int32) (n26 : Int32) (n27 n28 n29 : Nat → Int32) (n30 n31 : Int32), f_X1_addByte v (w0, w1, w2, w3, w4, w5, w6, w7, w8) = (v0, v1, v2, v3, v4, v5, v6, v7, v8) ∧ jn_X7_receive_156 v (m_0, m_1, m_2, m_3, m_4, m_5, m_6, m_7, m_8, m_9, m_10, m_11, m_12, m_13, m_14, m_15, m_16, m_17, m_18, m_19, m_20, m_21, m_22, m_23, m_24, m_25, m_26, m_27, m_28, m_29, m_30, m_31) = (m_0, m_1, m_2, m_3, m_4, m_5, m_6, m_7, m_8, m_9, m_10, m_11, m_12, m_13, m_14, m_15, m_16, m_17, m_18, m_19, m_20, n21, n22, n23, n24, n25, n26, n27, n28, n29, n30, n31) ∧ RSh v0 v1 v2 v3 v4 v5 v6 v7 v8 n21 n22 n23 n24 n25 n26 n27 n28 n29 n30 n31 := by
  have h0 := h
  obtain ⟨s, k2, d1, d2, d3, d4, d5, d6, d7, d8, d9, d10, d11⟩ := h
  subst d3
  rcases d11 with ⟨_, o⟩ | ⟨o1, o2, o3, o4, o5, o6⟩
  · exact absurd o ho
  obtain ⟨len, hj, el⟩ := nI_of (x := m_24) (fun w => by have q := i_lt w; have z : (0 : Int32).toInt = 0 := rfl; omega)
  subst el
  have zl := nI_toInt (n := len) hj
  have hl : len ≤ 300 := by omega
  have e : (nI s).toNatClampNeg = s := nI_clamp (by omega)
  have zs := nI_toInt (n := s) (by omega)
  have g1 : ¬ nI s < 0 := fun w => by have q := i_lt w; have z : (0 : Int32).toInt = 0 := rfl; omega
  have g2 : nI s < 41 := nI_lt (b := 41) (by omega) (by decide)
  have c1 : ¬ nI len < 0 := fun w => by have q := i_lt w; have z : (0 : Int32).toInt = 0 := rfl; omega
  by_cases c : len = 300
  · subst c
    have c2 : ¬ nI 300 < 300 := by decide
    have c3 : nI 300 = 300 := rfl
    refine ⟨w0, w1, w2, nI s, w4, w5, 1, w7, w8, m_21, 1, m_23, nI 300, m_25, m_26, m_27, m_28, m_29, m_30, m_31, ?_, ?_, rs_brk h0⟩
    · simp only [f_X1_addByte, letv, ↓if_neg g1, ↓if_pos g2, e, o5, ↓if_neg c1, ↓if_neg c2]
    · simp only [jn_X7_receive_156, ↓if_neg ho, ↓if_neg hv, ↓if_pos c3]
  · have c2 : nI len < 300 := nI_lt (b := 300) (by omega) (by decide)
    have c3 : ¬ nI len = 300 := fun w => c ((nI_eq (b := 300) (by omega) (by decide)).mp w)
    have e1 : (nI s * 75 + (nI len >>> ((2 : Int32) &&& 31))).toNatClampNeg = 75 * s + len / 4 := by
      rw [pk_shrN hj ((2 : Int32) &&& 31) 2 (by decide), show (75 : Int32) = nI 75 from rfl, pk_mul, nI_add, nI_clamp (by omega)]
      omega
    have e2 : (nI len &&& 3) * 8 = nI (8 * (len % 4)) := by
      rw [pk_andN (by omega) (m := 3) 2 (by decide), show (8 : Int32) = nI 8 from rfl, pk_mul, Nat.mul_comm]
    have e4 : (nI len).toNatClampNeg = len := nI_clamp (by omega)
    refine ⟨upd w0 (75 * s + len / 4) ((w0 (75 * s + len / 4) &&& (((255 : Int32) <<< (nI (8 * (len % 4)) &&& 31)) ^^^ (-1))) ||| ((v &&& 255) <<< (nI (8 * (len % 4)) &&& 31))), upd w1 s (nI (len + 1)), w2, nI s, w4, w5, w6, w7, w8, m_21, m_22, m_23, nI (len + 1), upd m_25 len (vp_nar .byte (v.toInt8.toInt32)), m_26, m_27, m_28, m_29, m_30, m_31, ?_, ?_, ?_⟩
    · simp only [f_X1_addByte, letv, ↓if_neg g1, ↓if_pos g2, e, o5, ↓if_neg c1, ↓if_pos c2, e1, e2, nI_1]
    · simp only [jn_X7_receive_156, ↓if_neg ho, ↓if_neg hv, ↓if_neg c3, e4, nI_1]
    · have zl1 := nI_toInt (n := len + 1) (by omega)
      refine ⟨s, k2, d1, d2, rfl, d4, d5, d6, d7, ⟨by omega, by omega⟩, d9, ?_, Or.inr ⟨o1, o2, o3, o4, pk_us, ?_⟩⟩
      · intro i hi
        obtain ⟨l', x1, x2, x3, x4, x5, x6⟩ := d10 i hi
        refine ⟨l', x1, by rw [pk_un (by omega)]; exact x2, x3, x4, x5, ?_⟩
        intro j hj
        rw [byteAt_upd (by omega) (by omega), if_neg (by omega)]
        exact x6 j hj
      · intro j hj
        rw [byteAt_upd (by omega) (by omega)]
        by_cases ej : j = len
        · subst ej
          rw [if_pos ⟨rfl, rfl⟩, pk_us, nar255]
          exact (nar255 v).symm
        · rw [if_neg (fun w => ej w.2), pk_un ej]
          exact o6 j (by omega)

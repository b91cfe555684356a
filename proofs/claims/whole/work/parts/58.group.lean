abbrev rx (M : MdS) := M.2.2.2.2.2.2.2.2.2
theorem rrx_mk {k r tr : Nat} {w e d go gr bd sr rk fa : Int32} (hrk : rk = nI r) (hfa : fa = nI tr) (hw : 0 ≤ w.toInt ∧ w.toInt < 1024) (he : e = 0 ∨ e = 1) (hd : pm d) (hr : r ≤ 3) (ht : tr ≤ 4) (h3 : r = 3 → 0 < tr) : RRx k w 0 e d rk fa go gr bd sr d rk fa go 0 w e gr bd sr :=
  ⟨rfl, hw, rfl, he, rfl, hd, rfl, rfl, rfl, rfl, rfl, rfl, r, 0, tr, hr, hrk, Nat.zero_le _, rfl, rfl, fun _ => by omega, ht, hfa, h3⟩
theorem sa_sim {w0 w1 w2 : Nat → Int32} {w3 w4 w5 w6 w7 w8 : Int32} {m_0 : Nat → Int32} {m_1 : Nat → Int32} {m_2 : Nat → Int32} {m_3 : Nat → Int32} {m_4 : Int32} {m_5 : Nat → Int32} {m_6 : Int32} {m_7 : Int32} {m_8 : Int32} {m_9 : Int32} {m_10 : Int32} {m_11 : Int32} {m_12 : Int32} {m_13 : Int32} {m_14 : Int32} {m_15 : Int32} {m_16 : Int32} {m_17 : Int32} {m_18 : Int32} {m_19 : Int32} {m_20 : Nat → Int32} {m_21 : Int32} {m_22 : Int32} {m_23 : Int32} {m_24 : Int32} {m_25 : Nat → Int32} {m_26 : Int32} {m_27 : Nat → Int32} {m_28 : Nat → Int32} {m_29 : Nat → Int32} {m_30 : Int32} {m_31 : Int32} (h : RSh w0 w1 w2 w3 w4 w5 w6 w7 w8 m_21 m_22 m_23 m_24 m_25 m_26 m_27 m_28 m_29 m_30 m_31) : ∃ (v0 v1 v2 : Nat → Int32) (v3 v4 v5 v6 v7 v8 n21 n22 n23 n24 : Int32) (n25 : Nat → Int32) (n26 : Int32) (n27 n28 n29 : Nat → Int32) (n30 n31 : Int32), f_X1_lose (w0, w1, w2, w3, w4, w5, w6, w7, w8) = (v0, v1, v2, v3, v4, v5, v6, v7, v8) ∧ f_X7_searchAgain (m_0, m_1, m_2, m_3, m_4, m_5, m_6, m_7, m_8, m_9, m_10, m_11, m_12, m_13, m_14, m_15, m_16, m_17, m_18, m_19, m_20, m_21, m_22, m_23, m_24, m_25, m_26, m_27, m_28, m_29, m_30, m_31) = (m_0, m_1, m_2, m_3, m_4, m_5, m_6, m_7, m_8, m_9, 0, 0, m_12, 0, m_14, m_15, m_16, m_17, m_18 + 1, m_19, m_20, n21, n22, n23, n24, n25, n26, n27, n28, n29, n30, n31) ∧ RSh v0 v1 v2 v3 v4 v5 v6 v7 v8 n21 n22 n23 n24 n25 n26 n27 n28 n29 n30 n31 := by
  rcases rs_op h with ⟨o1, o2⟩ | ⟨o1, o2, o3, o4⟩
  · refine ⟨_, _, _, _, _, _, _, _, _, _, _, _, _, _, _, _, _, _, _, _, ?_, ?_, h⟩
    · simp only [f_X1_lose, ↓if_pos o1]
    · simp only [f_X7_searchAgain, ↓if_pos o2]
  · have ho : ¬ m_21 = 0 := by rw [o1]; decide
    have h0 : ¬ w5 = 0 := by
      rcases o2 with ⟨q, _⟩ | ⟨q, _⟩ <;> rw [q] <;> decide
    obtain ⟨u2, u3, u4, u8, g26, g27, g28, g29, g31, e1, e2, e3⟩ := end_sim (a := 0) (m_0 := m_0) (m_1 := m_1) (m_2 := m_2) (m_3 := m_3) (m_4 := m_4) (m_5 := m_5) (m_6 := m_6) (m_7 := m_7) (m_8 := m_8) (m_9 := m_9) (m_10 := 0) (m_11 := 0) (m_12 := m_12) (m_13 := 0) (m_14 := m_14) (m_15 := m_15) (m_16 := m_16) (m_17 := m_17) (m_18 := (m_18 + 1)) (m_19 := m_19) (m_20 := m_20) (m_21 := m_21) (m_22 := m_22) (m_23 := m_23) (m_24 := m_24) (m_25 := m_25) (m_26 := m_26) (m_27 := m_27) (m_28 := m_28) (m_29 := m_29) (m_30 := m_30) (m_31 := m_31) (Or.inl rfl) h ho
    refine ⟨_, _, _, _, _, _, _, _, _, _, _, _, _, _, _, _, _, _, _, _, ?_, ?_, e3⟩
    · simp only [f_X1_lose, ↓if_neg h0, e1]
    · simp only [f_X7_searchAgain, ↓if_neg ho, e2]
theorem tg_eq {m_0 : Nat → Int32} {m_1 : Nat → Int32} {m_2 : Nat → Int32} {m_3 : Nat → Int32} {m_4 : Int32} {m_5 : Nat → Int32} {m_6 : Int32} {m_7 : Int32} {m_8 : Int32} {m_9 : Int32} {m_10 : Int32} {m_11 : Int32} {m_12 : Int32} {m_13 : Int32} {m_14 : Int32} {m_15 : Int32} {m_16 : Int32} {m_17 : Int32} {m_18 : Int32} {m_19 : Int32} {m_20 : Nat → Int32} {m_21 : Int32} {m_22 : Int32} {m_23 : Int32} {m_24 : Int32} {m_25 : Nat → Int32} {m_26 : Int32} {m_27 : Nat → Int32} {m_28 : Nat → Int32} {m_29 : Nat → Int32} {m_30 : Int32} {m_31 : Int32} {v1 x : Int32} (hx : f_X7_decode m_14 m_9 (m_0, m_1, m_2, m_3, m_4, m_5, m_6, m_7, m_8, m_9, m_10, m_11, m_12, m_13, m_14, m_15, m_16, m_17, m_18, m_19, m_20, m_21, m_22, m_23, m_24, m_25, m_26, m_27, m_28, m_29, m_30, m_31) = x) : f_X7_takeGroup v1 (m_0, m_1, m_2, m_3, m_4, m_5, m_6, m_7, m_8, m_9, m_10, m_11, m_12, m_13, m_14, m_15, m_16, m_17, m_18, m_19, m_20, m_21, m_22, m_23, m_24, m_25, m_26, m_27, m_28, m_29, m_30, m_31) = jn_X7_takeGroup_129 v1 x (if x = (-1) then 0 else 1) (f_X7_isComma m_14) (if x = (-1) then 1 else if f_X7_isComma m_14 = 0 then 0 else if m_15 = 0 then 0 else 1) (if m_15 = 0 then 1 else 0) (m_0, m_1, m_2, m_3, m_4, m_5, m_6, m_7, m_8, f_X7_behindGroup m_14 m_9, m_10, m_11, m_12, m_13, m_14, if m_15 = 0 then 1 else 0, m_16 + 1, if x = (-1) then m_17 + 1 else m_17, m_18, m_19, m_20, m_21, m_22, m_23, m_24, m_25, m_26, m_27, m_28, m_29, m_30, m_31) := by
  have h10 : ¬ (1 : Int32) = 0 := by decide
  by_cases cx : x = (-1) <;> by_cases cc : f_X7_isComma m_14 = 0 <;> by_cases ce : m_15 = 0
  · simp only [f_X7_takeGroup, letv, hx, ↓if_pos cx, jn_X7_takeGroup_24, ↓reduceIte, jn_X7_takeGroup_56, jn_X7_takeGroup_99, ↓if_pos ce, jn_X7_takeGroup_113]
  · simp only [f_X7_takeGroup, letv, hx, ↓if_pos cx, jn_X7_takeGroup_24, ↓reduceIte, jn_X7_takeGroup_56, jn_X7_takeGroup_99, ↓if_neg ce, jn_X7_takeGroup_113]
  · simp only [f_X7_takeGroup, letv, hx, ↓if_pos cx, jn_X7_takeGroup_24, ↓reduceIte, jn_X7_takeGroup_56, jn_X7_takeGroup_99, ↓if_pos ce, jn_X7_takeGroup_113]
  · simp only [f_X7_takeGroup, letv, hx, ↓if_pos cx, jn_X7_takeGroup_24, ↓reduceIte, jn_X7_takeGroup_56, jn_X7_takeGroup_99, ↓if_neg ce, jn_X7_takeGroup_113]
  · simp only [f_X7_takeGroup, letv, hx, ↓if_neg cx, ↓if_pos cc, jn_X7_takeGroup_24, ↓if_neg h10, jn_X7_takeGroup_56, jn_X7_takeGroup_99, ↓if_pos ce, jn_X7_takeGroup_113, Int32.add_zero]
  · simp only [f_X7_takeGroup, letv, hx, ↓if_neg cx, ↓if_pos cc, jn_X7_takeGroup_24, ↓if_neg h10, jn_X7_takeGroup_56, jn_X7_takeGroup_99, ↓if_neg ce, jn_X7_takeGroup_113, Int32.add_zero]
  · simp only [f_X7_takeGroup, letv, hx, ↓if_neg cx, ↓if_neg cc, jn_X7_takeGroup_24, ↓if_neg h10, jn_X7_takeGroup_56, jn_X7_takeGroup_99, ↓if_pos ce, jn_X7_takeGroup_113, Int32.add_zero]
  · simp only [f_X7_takeGroup, letv, hx, ↓if_neg cx, ↓if_neg cc, jn_X7_takeGroup_24, ↓if_neg h10, jn_X7_takeGroup_56, jn_X7_takeGroup_99, ↓if_neg ce, jn_X7_takeGroup_113, Int32.add_zero]
theorem lg_eq {x c : Int32} {g0 : Nat → Int32} {g1 g2 g3 : Int32} {w0 w1 w2 : Nat → Int32} {w3 w4 w5 w6 w7 w8 : Int32} {a0 a1 a2 a3 a4 a5 a6 a7 a8 a9 : Int32} : f_X3_laterGroup x c ((g0, g1, g2, g3), (w0, w1, w2, w3, w4, w5, w6, w7, w8), a0, a1, a2, a3, a4, a5, a6, a7, a8, a9) = jn_X3_laterGroup_38 x c (if x = (-1) then 1 else if c = 0 then 0 else if a2 = 0 then 0 else 1) ((g0, g1, g2, g3), (w0, w1, w2, w3, w4, w5, w6, w7, w8), a0, a1, (if a2 = 0 then 1 else 0), a3, a4, a5, a6, a7, a8, a9) := by
  by_cases cx : x = (-1) <;> by_cases cc : c = 0 <;> by_cases ce : a2 = 0
  · simp only [f_X3_laterGroup, ↓if_pos cx, ↓if_pos ce]
  · simp only [f_X3_laterGroup, ↓if_pos cx, ↓if_neg ce]
  · simp only [f_X3_laterGroup, ↓if_pos cx, ↓if_pos ce]
  · simp only [f_X3_laterGroup, ↓if_pos cx, ↓if_neg ce]
  · simp only [f_X3_laterGroup, ↓if_neg cx, ↓if_pos cc, ↓if_pos ce]
  · simp only [f_X3_laterGroup, ↓if_neg cx, ↓if_pos cc, ↓if_neg ce]
  · simp only [f_X3_laterGroup, ↓if_neg cx, ↓if_neg cc, ↓if_pos ce]
  · simp only [f_X3_laterGroup, ↓if_neg cx, ↓if_neg cc, ↓if_neg ce]
set_option maxHeartbeats 4000000 in
theorem hi_a {B tr : Nat} {g0 : Nat → Int32} {g1 g2 g3 : Int32} {w0 w1 w2 : Nat → Int32} {w3 w4 w5 w6 w7 w8 : Int32} {m_0 : Nat → Int32} {m_1 : Nat → Int32} {m_2 : Nat → Int32} {m_3 : Nat → Int32} {m_4 : Int32} {m_5 : Nat → Int32} {m_6 : Int32} {m_7 : Int32} {m_8 : Int32} {m_9 : Int32} {m_12 : Int32} {m_13 : Int32} {m_14 : Int32} {m_15 : Int32} {m_16 : Int32} {m_17 : Int32} {m_18 : Int32} {m_19 : Int32} {m_20 : Nat → Int32} {m_21 : Int32} {m_22 : Int32} {m_23 : Int32} {m_24 : Int32} {m_25 : Nat → Int32} {m_26 : Int32} {m_27 : Nat → Int32} {m_28 : Nat → Int32} {m_29 : Nat → Int32} {m_30 : Int32} {m_31 : Int32} {x c fl ok v6 : Int32} (cf : fl = 0) (c4 : m_12 + 1 = 4) (hB : B < 100000000) (hw : 0 ≤ m_14.toInt ∧ m_14.toInt < 1024) (he : m_15 = 0 ∨ m_15 = 1) (hp : pm m_9) (ht : tr ≤ 4) (h3 : 0 < tr) (hL : RLg B g0 g1 g2 g3 m_19 m_20) (h : RSh w0 w1 w2 w3 w4 w5 w6 w7 w8 m_21 m_22 m_23 m_24 m_25 m_26 m_27 m_28 m_29 m_30 m_31) : RRv (B + 1) (jn_X3_laterGroup_38 x c fl ((g0, g1, g2, g3), (w0, w1, w2, w3, w4, w5, w6, w7, w8), m_14, 0, m_15, m_9, 3, nI tr, m_12, m_16, m_17, m_18)) (rx (jn_X7_takeGroup_129 0 x ok c fl v6 (m_0, m_1, m_2, m_3, m_4, m_5, m_6, m_7, m_8, m_9, 3, nI tr, m_12, m_13, m_14, m_15, m_16, m_17, m_18, m_19, m_20, m_21, m_22, m_23, m_24, m_25, m_26, m_27, m_28, m_29, m_30, m_31))) := by
  obtain ⟨e0, e1, e2, e3, n20, q1, q2, v0, v1, v2, v3, v4, v5, v6, v7, v8, n21, n22, n23, n24, n25, n26, n27, n28, n29, n30, n31, f1, f2, f3⟩ := receive_sim (v := x) (m_0 := m_0) (m_1 := m_1) (m_2 := m_2) (m_3 := m_3) (m_4 := m_4) (m_5 := m_5) (m_6 := m_6) (m_7 := m_7) (m_8 := m_8) (m_9 := m_9) (m_10 := 3) (m_11 := (nI tr)) (m_12 := m_12) (m_13 := 0) (m_14 := m_14) (m_15 := m_15) (m_16 := m_16) (m_17 := m_17) (m_18 := m_18) (m_19 := m_19) (m_20 := m_20) (m_21 := m_21) (m_22 := m_22) (m_23 := m_23) (m_24 := m_24) (m_25 := m_25) (m_26 := m_26) (m_27 := m_27) (m_28 := m_28) (m_29 := m_29) (m_30 := m_30) (m_31 := m_31) hB hL h
  have c3 : (3 : Int32) ≤ 3 := by decide
  have r3 : (3 : Int32) = nI 3 := rfl
  by_cases ct : tr = 4
  · subst ct
    have d1 : (if 4 < nI 4 + 1 then 4 else nI 4 + 1) = nI 4 := rfl
    have d2 : (4 : Int32) ≤ nI 4 := by decide
    simp only [jn_X3_laterGroup_38, ↓if_pos c3, q1, f1, f_X3_weigh, ↓if_pos cf, ↓if_pos c4, d1]
    simp only [jn_X7_takeGroup_129, ↓reduceIte, ↓if_pos c3, f2, ↓if_pos cf, ↓if_pos c4, ↓if_pos d2, Int32.add_zero]
    exact ⟨rrx_mk r3 rfl hw he hp (by omega) (by omega) (fun _ => by omega), q2, f3⟩
  · have d0 : ¬ 4 < nI (tr + 1) := fun w => by have a := i_lt w; have z : (4 : Int32).toInt = 4 := rfl; rw [nI_toInt (by omega)] at a; omega
    have d2 : ¬ (4 : Int32) ≤ nI tr := nI_ge (b := 4) (by omega) (by decide)
    simp only [jn_X3_laterGroup_38, ↓if_pos c3, q1, f1, f_X3_weigh, ↓if_pos cf, ↓if_pos c4, nI_1 tr, ↓if_neg d0]
    simp only [jn_X7_takeGroup_129, ↓reduceIte, ↓if_pos c3, f2, ↓if_pos cf, ↓if_pos c4, ↓if_neg d2, nI_1 tr]
    exact ⟨rrx_mk r3 rfl hw he hp (by omega) (by omega) (fun _ => by omega), q2, f3⟩
set_option maxHeartbeats 4000000 in
theorem hi_b {B tr : Nat} {g0 : Nat → Int32} {g1 g2 g3 : Int32} {w0 w1 w2 : Nat → Int32} {w3 w4 w5 w6 w7 w8 : Int32} {m_0 : Nat → Int32} {m_1 : Nat → Int32} {m_2 : Nat → Int32} {m_3 : Nat → Int32} {m_4 : Int32} {m_5 : Nat → Int32} {m_6 : Int32} {m_7 : Int32} {m_8 : Int32} {m_9 : Int32} {m_12 : Int32} {m_13 : Int32} {m_14 : Int32} {m_15 : Int32} {m_16 : Int32} {m_17 : Int32} {m_18 : Int32} {m_19 : Int32} {m_20 : Nat → Int32} {m_21 : Int32} {m_22 : Int32} {m_23 : Int32} {m_24 : Int32} {m_25 : Nat → Int32} {m_26 : Int32} {m_27 : Nat → Int32} {m_28 : Nat → Int32} {m_29 : Nat → Int32} {m_30 : Int32} {m_31 : Int32} {x c fl ok v6 : Int32} (cf : fl = 0) (c4 : ¬ m_12 + 1 = 4) (hB : B < 100000000) (hw : 0 ≤ m_14.toInt ∧ m_14.toInt < 1024) (he : m_15 = 0 ∨ m_15 = 1) (hp : pm m_9) (ht : tr ≤ 4) (h3 : 0 < tr) (hL : RLg B g0 g1 g2 g3 m_19 m_20) (h : RSh w0 w1 w2 w3 w4 w5 w6 w7 w8 m_21 m_22 m_23 m_24 m_25 m_26 m_27 m_28 m_29 m_30 m_31) : RRv (B + 1) (jn_X3_laterGroup_38 x c fl ((g0, g1, g2, g3), (w0, w1, w2, w3, w4, w5, w6, w7, w8), m_14, 0, m_15, m_9, 3, nI tr, m_12, m_16, m_17, m_18)) (rx (jn_X7_takeGroup_129 0 x ok c fl v6 (m_0, m_1, m_2, m_3, m_4, m_5, m_6, m_7, m_8, m_9, 3, nI tr, m_12, m_13, m_14, m_15, m_16, m_17, m_18, m_19, m_20, m_21, m_22, m_23, m_24, m_25, m_26, m_27, m_28, m_29, m_30, m_31))) := by
  obtain ⟨e0, e1, e2, e3, n20, q1, q2, v0, v1, v2, v3, v4, v5, v6, v7, v8, n21, n22, n23, n24, n25, n26, n27, n28, n29, n30, n31, f1, f2, f3⟩ := receive_sim (v := x) (m_0 := m_0) (m_1 := m_1) (m_2 := m_2) (m_3 := m_3) (m_4 := m_4) (m_5 := m_5) (m_6 := m_6) (m_7 := m_7) (m_8 := m_8) (m_9 := m_9) (m_10 := 3) (m_11 := (nI tr)) (m_12 := m_12) (m_13 := 0) (m_14 := m_14) (m_15 := m_15) (m_16 := m_16) (m_17 := m_17) (m_18 := m_18) (m_19 := m_19) (m_20 := m_20) (m_21 := m_21) (m_22 := m_22) (m_23 := m_23) (m_24 := m_24) (m_25 := m_25) (m_26 := m_26) (m_27 := m_27) (m_28 := m_28) (m_29 := m_29) (m_30 := m_30) (m_31 := m_31) hB hL h
  have c3 : (3 : Int32) ≤ 3 := by decide
  have r3 : (3 : Int32) = nI 3 := rfl
  simp only [jn_X3_laterGroup_38, ↓if_pos c3, q1, f1, f_X3_weigh, ↓if_pos cf, ↓if_neg c4]
  simp only [jn_X7_takeGroup_129, ↓reduceIte, ↓if_pos c3, f2, ↓if_pos cf, ↓if_neg c4]
  exact ⟨rrx_mk r3 rfl hw he hp (by omega) (by omega) (fun _ => by omega), q2, f3⟩
set_option maxHeartbeats 4000000 in
theorem hi_c {B tr : Nat} {g0 : Nat → Int32} {g1 g2 g3 : Int32} {w0 w1 w2 : Nat → Int32} {w3 w4 w5 w6 w7 w8 : Int32} {m_0 : Nat → Int32} {m_1 : Nat → Int32} {m_2 : Nat → Int32} {m_3 : Nat → Int32} {m_4 : Int32} {m_5 : Nat → Int32} {m_6 : Int32} {m_7 : Int32} {m_8 : Int32} {m_9 : Int32} {m_12 : Int32} {m_13 : Int32} {m_14 : Int32} {m_15 : Int32} {m_16 : Int32} {m_17 : Int32} {m_18 : Int32} {m_19 : Int32} {m_20 : Nat → Int32} {m_21 : Int32} {m_22 : Int32} {m_23 : Int32} {m_24 : Int32} {m_25 : Nat → Int32} {m_26 : Int32} {m_27 : Nat → Int32} {m_28 : Nat → Int32} {m_29 : Nat → Int32} {m_30 : Int32} {m_31 : Int32} {x c fl ok v6 : Int32} (cf : ¬ fl = 0) (hB : B < 100000000) (hw : 0 ≤ m_14.toInt ∧ m_14.toInt < 1024) (he : m_15 = 0 ∨ m_15 = 1) (hp : pm m_9) (ht : tr ≤ 4) (h3 : 0 < tr) (hL : RLg B g0 g1 g2 g3 m_19 m_20) (h : RSh w0 w1 w2 w3 w4 w5 w6 w7 w8 m_21 m_22 m_23 m_24 m_25 m_26 m_27 m_28 m_29 m_30 m_31) : RRv (B + 1) (jn_X3_laterGroup_38 x c fl ((g0, g1, g2, g3), (w0, w1, w2, w3, w4, w5, w6, w7, w8), m_14, 0, m_15, m_9, 3, nI tr, m_12, m_16, m_17, m_18)) (rx (jn_X7_takeGroup_129 0 x ok c fl v6 (m_0, m_1, m_2, m_3, m_4, m_5, m_6, m_7, m_8, m_9, 3, nI tr, m_12, m_13, m_14, m_15, m_16, m_17, m_18, m_19, m_20, m_21, m_22, m_23, m_24, m_25, m_26, m_27, m_28, m_29, m_30, m_31))) := by
  obtain ⟨e0, e1, e2, e3, n20, q1, q2, v0, v1, v2, v3, v4, v5, v6, v7, v8, n21, n22, n23, n24, n25, n26, n27, n28, n29, n30, n31, f1, f2, f3⟩ := receive_sim (v := x) (m_0 := m_0) (m_1 := m_1) (m_2 := m_2) (m_3 := m_3) (m_4 := m_4) (m_5 := m_5) (m_6 := m_6) (m_7 := m_7) (m_8 := m_8) (m_9 := m_9) (m_10 := 3) (m_11 := (nI tr)) (m_12 := m_12) (m_13 := 0) (m_14 := m_14) (m_15 := m_15) (m_16 := m_16) (m_17 := m_17) (m_18 := m_18) (m_19 := m_19) (m_20 := m_20) (m_21 := m_21) (m_22 := m_22) (m_23 := m_23) (m_24 := m_24) (m_25 := m_25) (m_26 := m_26) (m_27 := m_27) (m_28 := m_28) (m_29 := m_29) (m_30 := m_30) (m_31 := m_31) hB hL h
  have c3 : (3 : Int32) ≤ 3 := by decide
  have r3 : (3 : Int32) = nI 3 := rfl
  have es : nI tr - 1 = nI (tr - 1) := pk_sub (b := 1) (by omega)
  by_cases c1 : tr = 1
  · subst c1
    have d1 : nI 1 - 1 = 0 := rfl
    obtain ⟨z0, z1, z2, z3, z4, z5, z6, z7, z8, x21, x22, x23, x24, x25, x26, x27, x28, x29, x30, x31, y1, y2, y3⟩ := sa_sim (m_0 := m_0) (m_1 := m_1) (m_2 := m_2) (m_3 := m_3) (m_4 := m_4) (m_5 := m_5) (m_6 := m_6) (m_7 := m_7) (m_8 := m_8) (m_9 := m_9) (m_10 := 3) (m_11 := (nI 1 - 1)) (m_12 := 0) (m_13 := 0) (m_14 := m_14) (m_15 := m_15) (m_16 := m_16) (m_17 := m_17) (m_18 := m_18) (m_19 := (m_19 + 1)) (m_20 := n20) (m_21 := n21) (m_22 := n22) (m_23 := n23) (m_24 := n24) (m_25 := n25) (m_26 := n26) (m_27 := n27) (m_28 := n28) (m_29 := n29) (m_30 := n30) (m_31 := n31) f3
    simp only [jn_X3_laterGroup_38, ↓if_pos c3, q1, f1, f_X3_weigh, ↓if_neg cf, ↓if_pos d1, f_X3_searchAgain, y1]
    simp only [jn_X7_takeGroup_129, ↓reduceIte, ↓if_pos c3, f2, ↓if_neg cf, ↓if_pos d1]
    rw [y2]
    exact ⟨rrx_mk (r := 0) (tr := 0) rfl rfl hw he hp (by omega) (by omega) (fun _ => by omega), q2, y3⟩
  · have d1 : ¬ nI (tr - 1) = 0 := fun w => by have := (nI_eq (b := 0) (by omega) (by decide)).mp w; omega
    simp only [jn_X3_laterGroup_38, ↓if_pos c3, q1, f1, f_X3_weigh, ↓if_neg cf, es, ↓if_neg d1]
    simp only [jn_X7_takeGroup_129, ↓reduceIte, ↓if_pos c3, f2, ↓if_neg cf, es, ↓if_neg d1]
    exact ⟨rrx_mk r3 rfl hw he hp (by omega) (by omega) (fun _ => by omega), q2, f3⟩
theorem hi_sim {B tr : Nat} {g0 : Nat → Int32} {g1 g2 g3 : Int32} {w0 w1 w2 : Nat → Int32} {w3 w4 w5 w6 w7 w8 : Int32} {m_0 : Nat → Int32} {m_1 : Nat → Int32} {m_2 : Nat → Int32} {m_3 : Nat → Int32} {m_4 : Int32} {m_5 : Nat → Int32} {m_6 : Int32} {m_7 : Int32} {m_8 : Int32} {m_9 : Int32} {m_12 : Int32} {m_13 : Int32} {m_14 : Int32} {m_15 : Int32} {m_16 : Int32} {m_17 : Int32} {m_18 : Int32} {m_19 : Int32} {m_20 : Nat → Int32} {m_21 : Int32} {m_22 : Int32} {m_23 : Int32} {m_24 : Int32} {m_25 : Nat → Int32} {m_26 : Int32} {m_27 : Nat → Int32} {m_28 : Nat → Int32} {m_29 : Nat → Int32} {m_30 : Int32} {m_31 : Int32} {x c fl ok v6 : Int32} (hB : B < 100000000) (hw : 0 ≤ m_14.toInt ∧ m_14.toInt < 1024) (he : m_15 = 0 ∨ m_15 = 1) (hp : pm m_9) (ht : tr ≤ 4) (h3 : 0 < tr) (hL : RLg B g0 g1 g2 g3 m_19 m_20) (h : RSh w0 w1 w2 w3 w4 w5 w6 w7 w8 m_21 m_22 m_23 m_24 m_25 m_26 m_27 m_28 m_29 m_30 m_31) : RRv (B + 1) (jn_X3_laterGroup_38 x c fl ((g0, g1, g2, g3), (w0, w1, w2, w3, w4, w5, w6, w7, w8), m_14, 0, m_15, m_9, 3, nI tr, m_12, m_16, m_17, m_18)) (rx (jn_X7_takeGroup_129 0 x ok c fl v6 (m_0, m_1, m_2, m_3, m_4, m_5, m_6, m_7, m_8, m_9, 3, nI tr, m_12, m_13, m_14, m_15, m_16, m_17, m_18, m_19, m_20, m_21, m_22, m_23, m_24, m_25, m_26, m_27, m_28, m_29, m_30, m_31))) := by
  by_cases cf : fl = 0
  · by_cases c4 : m_12 + 1 = 4
    · exact hi_a cf c4 hB hw he hp ht h3 hL h
    · exact hi_b cf c4 hB hw he hp ht h3 hL h
  · exact hi_c cf hB hw he hp ht h3 hL h
theorem lo_sim {B r tr : Nat} {g0 : Nat → Int32} {g1 g2 g3 : Int32} {w0 w1 w2 : Nat → Int32} {w3 w4 w5 w6 w7 w8 : Int32} {m_0 : Nat → Int32} {m_1 : Nat → Int32} {m_2 : Nat → Int32} {m_3 : Nat → Int32} {m_4 : Int32} {m_5 : Nat → Int32} {m_6 : Int32} {m_7 : Int32} {m_8 : Int32} {m_9 : Int32} {m_12 : Int32} {m_13 : Int32} {m_14 : Int32} {m_15 : Int32} {m_16 : Int32} {m_17 : Int32} {m_18 : Int32} {m_19 : Int32} {m_20 : Nat → Int32} {m_21 : Int32} {m_22 : Int32} {m_23 : Int32} {m_24 : Int32} {m_25 : Nat → Int32} {m_26 : Int32} {m_27 : Nat → Int32} {m_28 : Nat → Int32} {m_29 : Nat → Int32} {m_30 : Int32} {m_31 : Int32} {x c fl ok v6 : Int32} (hw : 0 ≤ m_14.toInt ∧ m_14.toInt < 1024) (he : m_15 = 0 ∨ m_15 = 1) (hp : pm m_9) (hr0 : 0 < r) (hr : r < 3) (ht : tr ≤ 4) (hf : fl = 0 → ¬ c = 0 → ¬ v6 = 0) (hL : RLg B g0 g1 g2 g3 m_19 m_20) (h : RSh w0 w1 w2 w3 w4 w5 w6 w7 w8 m_21 m_22 m_23 m_24 m_25 m_26 m_27 m_28 m_29 m_30 m_31) : RRv (B + 1) (jn_X3_laterGroup_38 x c fl ((g0, g1, g2, g3), (w0, w1, w2, w3, w4, w5, w6, w7, w8), m_14, 0, m_15, m_9, nI r, nI tr, m_12, m_16, m_17, m_18)) (rx (jn_X7_takeGroup_129 0 x ok c fl v6 (m_0, m_1, m_2, m_3, m_4, m_5, m_6, m_7, m_8, m_9, nI r, nI tr, m_12, m_13, m_14, m_15, m_16, m_17, m_18, m_19, m_20, m_21, m_22, m_23, m_24, m_25, m_26, m_27, m_28, m_29, m_30, m_31))) := by
  have c3 : ¬ (3 : Int32) ≤ nI r := nI_ge (b := 3) (by omega) (by decide)
  have hL := hL.mono (k' := B + 1) (by omega)
  by_cases cf : fl = 0
  · by_cases cc : c = 0
    · simp only [jn_X3_laterGroup_38, ↓if_neg c3, f_X3_climb, ↓if_pos cf, ↓if_pos cc, jn_X7_takeGroup_129, ↓reduceIte]
      exact ⟨rrx_mk rfl rfl hw he hp (by omega) ht (fun _ => by omega), hL, h⟩
    · have c6 := hf cf cc
      by_cases cr : r = 2
      · have d1 : nI r + 1 = 3 := by rw [cr]; rfl
        simp only [jn_X3_laterGroup_38, ↓if_neg c3, f_X3_climb, ↓if_pos cf, ↓if_neg cc, ↓if_pos d1, jn_X7_takeGroup_129, ↓reduceIte, ↓if_neg c6]
        exact ⟨rrx_mk (r := r + 1) (tr := 4) (nI_1 r) rfl hw he hp (by omega) (by omega) (fun _ => by omega), hL, h⟩
      · have d1 : ¬ nI r + 1 = 3 := by
          rw [nI_1]
          exact fun w => by have := (nI_eq (b := 3) (by omega) (by decide)).mp w; omega
        simp only [jn_X3_laterGroup_38, ↓if_neg c3, f_X3_climb, ↓if_pos cf, ↓if_neg cc, ↓if_neg d1, jn_X7_takeGroup_129, ↓reduceIte, ↓if_neg c6]
        exact ⟨rrx_mk (r := r + 1) (tr := 0) (nI_1 r) rfl hw he hp (by omega) (by omega) (fun _ => by omega), hL, h⟩
  · obtain ⟨z0, z1, z2, z3, z4, z5, z6, z7, z8, x21, x22, x23, x24, x25, x26, x27, x28, x29, x30, x31, y1, y2, y3⟩ := sa_sim (m_0 := m_0) (m_1 := m_1) (m_2 := m_2) (m_3 := m_3) (m_4 := m_4) (m_5 := m_5) (m_6 := m_6) (m_7 := m_7) (m_8 := m_8) (m_9 := m_9) (m_10 := (nI r)) (m_11 := (nI tr)) (m_12 := m_12) (m_13 := 0) (m_14 := m_14) (m_15 := m_15) (m_16 := m_16) (m_17 := m_17) (m_18 := m_18) (m_19 := m_19) (m_20 := m_20) (m_21 := m_21) (m_22 := m_22) (m_23 := m_23) (m_24 := m_24) (m_25 := m_25) (m_26 := m_26) (m_27 := m_27) (m_28 := m_28) (m_29 := m_29) (m_30 := m_30) (m_31 := m_31) h
    simp only [jn_X3_laterGroup_38, ↓if_neg c3, f_X3_climb, ↓if_neg cf, f_X3_searchAgain, y1, jn_X7_takeGroup_129, ↓reduceIte]
    rw [y2]
    exact ⟨rrx_mk (r := 0) (tr := 0) rfl rfl hw he hp (by omega) (by omega) (fun _ => by omega), hL, y3⟩

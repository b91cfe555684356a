theorem tab_mv {a_0 a_1 a_2 : Nat → Int32} {u v : (Nat → Int32) × Int32 × (Nat → Int32) × Int32 × Int32 × Int32 × Int32 × Int32 × Int32 × Int32 × Int32 × Int32 × Int32 × Int32 × Int32 × Int32 × Int32 × (Nat → Int32) × Int32 × Int32 × Int32 × Int32 × (Nat → Int32) × Int32 × (Nat → Int32) × (Nat → Int32) × (Nat → Int32) × Int32 × Int32} (h : tabOK (a_0, a_1, a_2, u)) : tabOK (a_0, a_1, a_2, v) := h
theorem rd_eq {g0 : Nat → Int32} {g1 g2 g3 : Int32} {w0 w1 w2 : Nat → Int32} {w3 w4 w5 w6 w7 w8 : Int32} {a0 a1 a2 a3 a4 a5 a6 a7 a8 a9 : Int32} : f_X3_readGroup ((g0, g1, g2, g3), (w0, w1, w2, w3, w4, w5, w6, w7, w8), a0, a1, a2, a3, a4, a5, a6, a7, a8, a9) = (f_X0_symbolOf a0 a3, ((g0, g1, g2, g3), (w0, w1, w2, w3, w4, w5, w6, w7, w8), a0, 0, a2, f_X0_behindGroup a0 a3, a4, a5, a6, a7 + 1, (if f_X0_symbolOf a0 a3 = (-1) then a8 + 1 else a8), a9)) := by
  by_cases cx : f_X0_symbolOf a0 a3 = (-1)
  · simp only [f_X3_readGroup, letv, ↓if_pos cx]
  · simp only [f_X3_readGroup, letv, ↓if_neg cx]
theorem flip01 (x : Int32) : (if x = 0 then (1 : Int32) else 0) = 0 ∨ (if x = 0 then (1 : Int32) else 0) = 1 := by
  by_cases c : x = 0
  · rw [if_pos c]; exact Or.inr rfl
  · rw [if_neg c]; exact Or.inl rfl
theorem later_sim {B r tr : Nat} {g0 : Nat → Int32} {g1 g2 g3 : Int32} {w0 w1 w2 : Nat → Int32} {w3 w4 w5 w6 w7 w8 : Int32} {m_0 : Nat → Int32} {m_1 : Nat → Int32} {m_2 : Nat → Int32} {m_3 : Nat → Int32} {m_4 : Int32} {m_5 : Nat → Int32} {m_6 : Int32} {m_7 : Int32} {m_8 : Int32} {m_9 : Int32} {m_12 : Int32} {m_13 : Int32} {m_14 : Int32} {m_15 : Int32} {m_16 : Int32} {m_17 : Int32} {m_18 : Int32} {m_19 : Int32} {m_20 : Nat → Int32} {m_21 : Int32} {m_22 : Int32} {m_23 : Int32} {m_24 : Int32} {m_25 : Nat → Int32} {m_26 : Int32} {m_27 : Nat → Int32} {m_28 : Nat → Int32} {m_29 : Nat → Int32} {m_30 : Int32} {m_31 : Int32} (hT : tabOK (m_0, m_1, m_2, m_3, m_4, m_5, m_6, m_7, m_8, m_9, nI r, nI tr, m_12, m_13, m_14, m_15, m_16, m_17, m_18, m_19, m_20, m_21, m_22, m_23, m_24, m_25, m_26, m_27, m_28, m_29, m_30, m_31)) (hB : B < 100000000) (hw : 0 ≤ m_14.toInt ∧ m_14.toInt < 1024) (hp : pm m_9) (hr0 : 0 < r) (hr : r ≤ 3) (ht : tr ≤ 4) (h3 : r = 3 → 0 < tr) (hL : RLg B g0 g1 g2 g3 m_19 m_20) (h : RSh w0 w1 w2 w3 w4 w5 w6 w7 w8 m_21 m_22 m_23 m_24 m_25 m_26 m_27 m_28 m_29 m_30 m_31) : RRv (B + 1) (f_X3_laterGroup (f_X0_symbolOf m_14 m_9) (f_X0_isComma m_14) ((g0, g1, g2, g3), (w0, w1, w2, w3, w4, w5, w6, w7, w8), m_14, 0, m_15, f_X0_behindGroup m_14 m_9, nI r, nI tr, m_12, m_16 + 1, (if f_X0_symbolOf m_14 m_9 = (-1) then m_17 + 1 else m_17), m_18)) (rx (f_X7_takeGroup 0 (m_0, m_1, m_2, m_3, m_4, m_5, m_6, m_7, m_8, m_9, nI r, nI tr, m_12, m_13, m_14, m_15, m_16, m_17, m_18, m_19, m_20, m_21, m_22, m_23, m_24, m_25, m_26, m_27, m_28, m_29, m_30, m_31))) := by
  have hx : f_X7_decode m_14 m_9 (m_0, m_1, m_2, m_3, m_4, m_5, m_6, m_7, m_8, m_9, nI r, nI tr, m_12, m_13, m_14, m_15, m_16, m_17, m_18, m_19, m_20, m_21, m_22, m_23, m_24, m_25, m_26, m_27, m_28, m_29, m_30, m_31) = f_X0_symbolOf m_14 m_9 := (dec_eq hT).symm
  obtain ⟨b1, b2⟩ := bh_eq hw hp
  rw [tg_eq hx, lg_eq, comma_eq, b1]
  have he := flip01 m_15
  rcases (show r = 3 ∨ r < 3 by omega) with e | e
  · have h10 : nI r = 3 := by rw [e]; rfl
    exact hi_sim (m_0 := m_0) (m_1 := m_1) (m_2 := m_2) (m_3 := m_3) (m_4 := m_4) (m_5 := m_5) (m_6 := m_6) (m_7 := m_7) (m_8 := m_8) (m_9 := (f_X7_behindGroup m_14 m_9)) (m_10 := (nI r)) (m_12 := m_12) (m_13 := m_13) (m_14 := m_14) (m_15 := (if m_15 = 0 then 1 else 0)) (m_16 := (m_16 + 1)) (m_17 := (if f_X0_symbolOf m_14 m_9 = (-1) then m_17 + 1 else m_17)) (m_18 := m_18) (m_19 := m_19) (m_20 := m_20) (m_21 := m_21) (m_22 := m_22) (m_23 := m_23) (m_24 := m_24) (m_25 := m_25) (m_26 := m_26) (m_27 := m_27) (m_28 := m_28) (m_29 := m_29) (m_30 := m_30) (m_31 := m_31) rfl h10 hB hw he b2 ht (h3 e) hL h
  · refine lo_sim (m_0 := m_0) (m_1 := m_1) (m_2 := m_2) (m_3 := m_3) (m_4 := m_4) (m_5 := m_5) (m_6 := m_6) (m_7 := m_7) (m_8 := m_8) (m_9 := (f_X7_behindGroup m_14 m_9)) (m_12 := m_12) (m_13 := m_13) (m_14 := m_14) (m_15 := (if m_15 = 0 then 1 else 0)) (m_16 := (m_16 + 1)) (m_17 := (if f_X0_symbolOf m_14 m_9 = (-1) then m_17 + 1 else m_17)) (m_18 := m_18) (m_19 := m_19) (m_20 := m_20) (m_21 := m_21) (m_22 := m_22) (m_23 := m_23) (m_24 := m_24) (m_25 := m_25) (m_26 := m_26) (m_27 := m_27) (m_28 := m_28) (m_29 := m_29) (m_30 := m_30) (m_31 := m_31) hw he b2 hr0 e ht ?_ hL h
    intro q1 q2 q3
    by_cases c5 : m_15 = 0
    · rw [if_pos c5] at q3; exact absurd q3 (by decide)
    · rw [if_neg q2, if_neg c5] at q1
      by_cases cx : f_X0_symbolOf m_14 m_9 = (-1)
      · rw [if_pos cx] at q1; exact absurd q1 (by decide)
      · rw [if_neg cx] at q1; exact absurd q1 (by decide)
theorem first_sim {B tr : Nat} {g0 : Nat → Int32} {g1 g2 g3 : Int32} {w0 w1 w2 : Nat → Int32} {w3 w4 w5 w6 w7 w8 : Int32} {m_0 : Nat → Int32} {m_1 : Nat → Int32} {m_2 : Nat → Int32} {m_3 : Nat → Int32} {m_4 : Int32} {m_5 : Nat → Int32} {m_6 : Int32} {m_7 : Int32} {m_8 : Int32} {m_12 : Int32} {m_13 : Int32} {m_14 : Int32} {m_16 : Int32} {m_17 : Int32} {m_18 : Int32} {m_19 : Int32} {m_20 : Nat → Int32} {m_21 : Int32} {m_22 : Int32} {m_23 : Int32} {m_24 : Int32} {m_25 : Nat → Int32} {m_26 : Int32} {m_27 : Nat → Int32} {m_28 : Nat → Int32} {m_29 : Nat → Int32} {m_30 : Int32} {m_31 : Int32} {a2 d : Int32} (hT : tabOK (m_0, m_1, m_2, m_3, m_4, m_5, m_6, m_7, m_8, d, 1, nI tr, m_12, m_13, m_14, 0, m_16, m_17, m_18, m_19, m_20, m_21, m_22, m_23, m_24, m_25, m_26, m_27, m_28, m_29, m_30, m_31)) (hw : 0 ≤ m_14.toInt ∧ m_14.toInt < 1024) (hp : pm d) (ht : tr ≤ 4) (hL : RLg B g0 g1 g2 g3 m_19 m_20) (h : RSh w0 w1 w2 w3 w4 w5 w6 w7 w8 m_21 m_22 m_23 m_24 m_25 m_26 m_27 m_28 m_29 m_30 m_31) : RRv (B + 1) (f_X3_firstGroup (f_X0_symbolOf m_14 d) ((g0, g1, g2, g3), (w0, w1, w2, w3, w4, w5, w6, w7, w8), m_14, 0, a2, f_X0_behindGroup m_14 d, 0, nI tr, m_12, m_16 + 1, (if f_X0_symbolOf m_14 d = (-1) then m_17 + 1 else m_17), m_18)) (rx (f_X7_takeGroup 1 (m_0, m_1, m_2, m_3, m_4, m_5, m_6, m_7, m_8, d, 1, nI tr, m_12, m_13, m_14, 0, m_16, m_17, m_18, m_19, m_20, m_21, m_22, m_23, m_24, m_25, m_26, m_27, m_28, m_29, m_30, m_31))) := by
  have hx : f_X7_decode m_14 d (m_0, m_1, m_2, m_3, m_4, m_5, m_6, m_7, m_8, d, 1, nI tr, m_12, m_13, m_14, 0, m_16, m_17, m_18, m_19, m_20, m_21, m_22, m_23, m_24, m_25, m_26, m_27, m_28, m_29, m_30, m_31) = f_X0_symbolOf m_14 d := (dec_eq hT).symm
  obtain ⟨b1, b2⟩ := bh_eq hw hp
  have h10 : ¬ (1 : Int32) = 0 := by decide
  have hL := hL.mono (k' := B + 1) (by omega)
  rw [tg_eq hx, b1]
  by_cases cx : f_X0_symbolOf m_14 d = (-1)
  · obtain ⟨z0, z1, z2, z3, z4, z5, z6, z7, z8, x21, x22, x23, x24, x25, x26, x27, x28, x29, x30, x31, y1, y2, y3⟩ := sa_sim (m_0 := m_0) (m_1 := m_1) (m_2 := m_2) (m_3 := m_3) (m_4 := m_4) (m_5 := m_5) (m_6 := m_6) (m_7 := m_7) (m_8 := m_8) (m_9 := (f_X7_behindGroup m_14 d)) (m_10 := 1) (m_11 := (nI tr)) (m_12 := m_12) (m_13 := 0) (m_14 := m_14) (m_15 := 1) (m_16 := (m_16 + 1)) (m_17 := (m_17 + 1)) (m_18 := m_18) (m_19 := m_19) (m_20 := m_20) (m_21 := m_21) (m_22 := m_22) (m_23 := m_23) (m_24 := m_24) (m_25 := m_25) (m_26 := m_26) (m_27 := m_27) (m_28 := m_28) (m_29 := m_29) (m_30 := m_30) (m_31 := m_31) h
    simp only [f_X3_firstGroup, ↓if_pos cx, f_X3_searchAgain, y1]
    simp only [jn_X7_takeGroup_129, ↓if_neg h10, ↓if_pos cx, ↓reduceIte]
    rw [y2]
    exact ⟨rrx_mk (r := 0) (tr := 0) rfl rfl hw (Or.inr rfl) b2 (by omega) (by omega) (fun _ => by omega), hL, y3⟩
  · simp only [f_X3_firstGroup, ↓if_neg cx]
    simp only [jn_X7_takeGroup_129, ↓if_neg h10, ↓if_neg cx, ↓reduceIte]
    exact ⟨rrx_mk (r := 1) rfl rfl hw (Or.inr rfl) b2 (by omega) ht (fun _ => by omega), hL, h⟩
theorem and1023 (x : Int32) : 0 ≤ (x &&& 1023).toInt ∧ (x &&& 1023).toInt < 1024 := by
  obtain ⟨j, hj, e⟩ := pk_andE x (m := 1023) 10 (by decide)
  have hj : j < 1024 := hj
  rw [e, nI_toInt (by omega)]
  omega
theorem acc_eq {b : Int32} {bi : Nat} (hb : b = 0 ∨ b = 1) {g0 : Nat → Int32} {g1 g2 g3 : Int32} {w0 w1 w2 : Nat → Int32} {w3 w4 w5 w6 w7 w8 : Int32} {a0 a2 a3 a4 a5 a6 a7 a8 a9 : Int32} : f_X3_accept b ((g0, g1, g2, g3), (w0, w1, w2, w3, w4, w5, w6, w7, w8), a0, nI (min bi 10), a2, a3, a4, a5, a6, a7, a8, a9) = jn_X3_accept_37 b ((g0, g1, g2, g3), (w0, w1, w2, w3, w4, w5, w6, w7, w8), (((a0 <<< ((1 : Int32) &&& 31)) ||| b) &&& 1023), nI (min (bi + 1) 10), a2, a3, a4, a5, a6, a7, a8, a9) := by
  have eb : b &&& 1 = b := by rcases hb with rfl | rfl <;> rfl
  by_cases c : bi < 10
  · have c1 : ¬ (10 : Int32) ≤ nI (min bi 10) := nI_ge (b := 10) (by omega) (by decide)
    have e1 : min bi 10 = bi := by omega
    have e2 : min (bi + 1) 10 = bi + 1 := by omega
    simp only [f_X3_accept, ↓if_neg c1, eb]
    rw [e1, e2, nI_1]
  · have e1 : min bi 10 = 10 := by omega
    have e2 : min (bi + 1) 10 = 10 := by omega
    have c1 : (10 : Int32) ≤ nI 10 := by decide
    rw [e1, e2]
    simp only [f_X3_accept, ↓if_pos c1, eb]
theorem rrx_bit {k r bi tr : Nat} {w e d go gr bd sr rk fa bs : Int32} (hrk : rk = nI r) (hfa : fa = nI tr) (hbs : bs = nI bi) (hb : bi ≤ k) (h0 : 0 < r → bi < 10) (hw : 0 ≤ w.toInt ∧ w.toInt < 1024) (he : e = 0 ∨ e = 1) (hd : pm d) (hr : r ≤ 3) (ht : tr ≤ 4) (h3 : r = 3 → 0 < tr) : RRx k w (nI (min bi 10)) e d rk fa go gr bd sr d rk fa go bs w e gr bd sr :=
  ⟨rfl, hw, rfl, he, rfl, hd, rfl, rfl, rfl, rfl, rfl, rfl, r, bi, tr, hr, hrk, hb, hbs, rfl, h0, ht, hfa, h3⟩
/-- a bit that doesn't end a group -/
theorem bit_a {b : Int32} {B r bi tr : Nat} (hb : b = 0 ∨ b = 1) {g0 : Nat → Int32} {g1 g2 g3 : Int32} {w0 w1 w2 : Nat → Int32} {w3 w4 w5 w6 w7 w8 : Int32} {m_0 : Nat → Int32} {m_1 : Nat → Int32} {m_2 : Nat → Int32} {m_3 : Nat → Int32} {m_4 : Int32} {m_5 : Nat → Int32} {m_6 : Int32} {m_7 : Int32} {m_8 : Int32} {m_9 : Int32} {m_12 : Int32} {m_14 : Int32} {m_15 : Int32} {m_16 : Int32} {m_17 : Int32} {m_18 : Int32} {m_19 : Int32} {m_20 : Nat → Int32} {m_21 : Int32} {m_22 : Int32} {m_23 : Int32} {m_24 : Int32} {m_25 : Nat → Int32} {m_26 : Int32} {m_27 : Nat → Int32} {m_28 : Nat → Int32} {m_29 : Nat → Int32} {m_30 : Int32} {m_31 : Int32} (hB : B < 100000000) (hbi : bi ≤ B) (he : m_15 = 0 ∨ m_15 = 1) (hp : pm m_9) (hr : r ≤ 3) (ht : tr ≤ 4) (h3 : r = 3 → 0 < tr) (hL : RLg B g0 g1 g2 g3 m_19 m_20) (h : RSh w0 w1 w2 w3 w4 w5 w6 w7 w8 m_21 m_22 m_23 m_24 m_25 m_26 m_27 m_28 m_29 m_30 m_31) (c : bi + 1 < 10) : RRv (B + 1) (f_X3_accept b ((g0, g1, g2, g3), (w0, w1, w2, w3, w4, w5, w6, w7, w8), m_14, nI (min bi 10), m_15, m_9, nI r, nI tr, m_12, m_16, m_17, m_18)) (rx (f_X7_takeBit b (m_0, m_1, m_2, m_3, m_4, m_5, m_6, m_7, m_8, m_9, nI r, nI tr, m_12, nI bi, m_14, m_15, m_16, m_17, m_18, m_19, m_20, m_21, m_22, m_23, m_24, m_25, m_26, m_27, m_28, m_29, m_30, m_31))) := by
  rw [acc_eq hb]
  have hw := and1023 ((m_14 <<< ((1 : Int32) &&& 31)) ||| b)
  have hL := hL.mono (k' := B + 1) (by omega)
  have c1 : ¬ (10 : Int32) ≤ nI (min (bi + 1) 10) := nI_ge (b := 10) (by omega) (by decide)
  have c2 : nI bi + 1 < 10 := by rw [nI_1]; exact nI_lt (b := 10) (by omega) (by decide)
  have c3 : ¬ nI bi + 1 = 10 := by
    rw [nI_1]
    exact fun w => by have := (nI_eq (b := 10) (by omega) (by decide)).mp w; omega
  simp only [jn_X3_accept_37, ↓if_neg c1]
  by_cases cr : nI r = 0
  · simp only [f_X7_takeBit, ↓if_pos cr, ↓if_pos c2]
    exact ⟨rrx_bit rfl rfl (nI_1 bi) (by omega) (fun _ => c) hw he hp hr ht h3, hL, h⟩
  · simp only [f_X7_takeBit, ↓if_neg cr, ↓if_neg c3]
    exact ⟨rrx_bit rfl rfl (nI_1 bi) (by omega) (fun _ => c) hw he hp hr ht h3, hL, h⟩
/-- a bit while no group is known -/
theorem bit_b {b : Int32} {B bi tr : Nat} (hb : b = 0 ∨ b = 1) {g0 : Nat → Int32} {g1 g2 g3 : Int32} {w0 w1 w2 : Nat → Int32} {w3 w4 w5 w6 w7 w8 : Int32} {m_0 : Nat → Int32} {m_1 : Nat → Int32} {m_2 : Nat → Int32} {m_3 : Nat → Int32} {m_4 : Int32} {m_5 : Nat → Int32} {m_6 : Int32} {m_7 : Int32} {m_8 : Int32} {m_9 : Int32} {m_12 : Int32} {m_14 : Int32} {m_15 : Int32} {m_16 : Int32} {m_17 : Int32} {m_18 : Int32} {m_19 : Int32} {m_20 : Nat → Int32} {m_21 : Int32} {m_22 : Int32} {m_23 : Int32} {m_24 : Int32} {m_25 : Nat → Int32} {m_26 : Int32} {m_27 : Nat → Int32} {m_28 : Nat → Int32} {m_29 : Nat → Int32} {m_30 : Int32} {m_31 : Int32} (hT : tabOK (m_0, m_1, m_2, m_3, m_4, m_5, m_6, m_7, m_8, m_9, 0, nI tr, m_12, nI bi, m_14, m_15, m_16, m_17, m_18, m_19, m_20, m_21, m_22, m_23, m_24, m_25, m_26, m_27, m_28, m_29, m_30, m_31)) (hB : B < 100000000) (hbi : bi ≤ B) (he : m_15 = 0 ∨ m_15 = 1) (hp : pm m_9) (ht : tr ≤ 4) (hL : RLg B g0 g1 g2 g3 m_19 m_20) (h : RSh w0 w1 w2 w3 w4 w5 w6 w7 w8 m_21 m_22 m_23 m_24 m_25 m_26 m_27 m_28 m_29 m_30 m_31) (c : ¬ bi + 1 < 10) : RRv (B + 1) (f_X3_accept b ((g0, g1, g2, g3), (w0, w1, w2, w3, w4, w5, w6, w7, w8), m_14, nI (min bi 10), m_15, m_9, 0, nI tr, m_12, m_16, m_17, m_18)) (rx (f_X7_takeBit b (m_0, m_1, m_2, m_3, m_4, m_5, m_6, m_7, m_8, m_9, 0, nI tr, m_12, nI bi, m_14, m_15, m_16, m_17, m_18, m_19, m_20, m_21, m_22, m_23, m_24, m_25, m_26, m_27, m_28, m_29, m_30, m_31))) := by
  rw [acc_eq hb]
  have hw := and1023 ((m_14 <<< ((1 : Int32) &&& 31)) ||| b)
  have e1 : min (bi + 1) 10 = 10 := by omega
  have c1 : (10 : Int32) ≤ nI (min (bi + 1) 10) := by rw [e1]; decide
  have c0 : (0 : Int32) ≤ 0 := by decide
  have c2 : ¬ nI bi + 1 < 10 := by rw [nI_1]; exact nI_nlt (b := 10) (by omega) (by omega)
  by_cases cc : f_X7_isComma (((m_14 <<< ((1 : Int32) &&& 31)) ||| b) &&& 1023) = 0
  · have hL := hL.mono (k' := B + 1) (by omega)
    simp only [jn_X3_accept_37, ↓if_pos c1, letv, comma_eq, ↓if_pos c0, ↓if_pos cc]
    simp only [f_X7_takeBit, ↓reduceIte, ↓if_neg c2, ↓if_pos cc]
    exact ⟨rrx_bit (r := 0) rfl rfl (nI_1 bi) (by omega) (fun _ => by omega) hw he hp (by omega) ht (fun _ => by omega), hL, h⟩
  · by_cases c3 : (((m_14 <<< ((1 : Int32) &&& 31)) ||| b) &&& 1023) >>> ((3 : Int32) &&& 31) = 31
    · simp only [jn_X3_accept_37, ↓if_pos c1, letv, comma_eq, ↓if_pos c0, ↓if_neg cc, f_X0_leanBeforeComma, ↓if_pos c3, rd_eq]
      simp only [f_X7_takeBit, ↓reduceIte, ↓if_neg c2, ↓if_neg cc, ↓if_pos c3, jn_X7_takeBit_72]
      exact first_sim (m_0 := m_0) (m_1 := m_1) (m_2 := m_2) (m_3 := m_3) (m_4 := m_4) (m_5 := m_5) (m_6 := m_6) (m_7 := m_7) (m_8 := m_8) (m_12 := m_12) (m_13 := (nI bi + 1)) (m_14 := (((m_14 <<< ((1 : Int32) &&& 31)) ||| b) &&& 1023)) (m_16 := m_16) (m_17 := m_17) (m_18 := m_18) (m_19 := m_19) (m_20 := m_20) (m_21 := m_21) (m_22 := m_22) (m_23 := m_23) (m_24 := m_24) (m_25 := m_25) (m_26 := m_26) (m_27 := m_27) (m_28 := m_28) (m_29 := m_29) (m_30 := m_30) (m_31 := m_31) (tab_mv hT) hw (Or.inl rfl) ht hL h
    · simp only [jn_X3_accept_37, ↓if_pos c1, letv, comma_eq, ↓if_pos c0, ↓if_neg cc, f_X0_leanBeforeComma, ↓if_neg c3, rd_eq]
      simp only [f_X7_takeBit, ↓reduceIte, ↓if_neg c2, ↓if_neg cc, ↓if_neg c3, jn_X7_takeBit_72]
      exact first_sim (m_0 := m_0) (m_1 := m_1) (m_2 := m_2) (m_3 := m_3) (m_4 := m_4) (m_5 := m_5) (m_6 := m_6) (m_7 := m_7) (m_8 := m_8) (m_12 := m_12) (m_13 := (nI bi + 1)) (m_14 := (((m_14 <<< ((1 : Int32) &&& 31)) ||| b) &&& 1023)) (m_16 := m_16) (m_17 := m_17) (m_18 := m_18) (m_19 := m_19) (m_20 := m_20) (m_21 := m_21) (m_22 := m_22) (m_23 := m_23) (m_24 := m_24) (m_25 := m_25) (m_26 := m_26) (m_27 := m_27) (m_28 := m_28) (m_29 := m_29) (m_30 := m_30) (m_31 := m_31) (tab_mv hT) hw (Or.inr rfl) ht hL h
/-- the last bit of a group -/
theorem bit_c {b : Int32} {B r tr : Nat} (hb : b = 0 ∨ b = 1) {g0 : Nat → Int32} {g1 g2 g3 : Int32} {w0 w1 w2 : Nat → Int32} {w3 w4 w5 w6 w7 w8 : Int32} {m_0 : Nat → Int32} {m_1 : Nat → Int32} {m_2 : Nat → Int32} {m_3 : Nat → Int32} {m_4 : Int32} {m_5 : Nat → Int32} {m_6 : Int32} {m_7 : Int32} {m_8 : Int32} {m_9 : Int32} {m_12 : Int32} {m_14 : Int32} {m_15 : Int32} {m_16 : Int32} {m_17 : Int32} {m_18 : Int32} {m_19 : Int32} {m_20 : Nat → Int32} {m_21 : Int32} {m_22 : Int32} {m_23 : Int32} {m_24 : Int32} {m_25 : Nat → Int32} {m_26 : Int32} {m_27 : Nat → Int32} {m_28 : Nat → Int32} {m_29 : Nat → Int32} {m_30 : Int32} {m_31 : Int32} (hT : tabOK (m_0, m_1, m_2, m_3, m_4, m_5, m_6, m_7, m_8, m_9, nI r, nI tr, m_12, nI 9, m_14, m_15, m_16, m_17, m_18, m_19, m_20, m_21, m_22, m_23, m_24, m_25, m_26, m_27, m_28, m_29, m_30, m_31)) (hB : B < 100000000) (hp : pm m_9) (hr0 : 0 < r) (hr : r ≤ 3) (ht : tr ≤ 4) (h3 : r = 3 → 0 < tr) (hL : RLg B g0 g1 g2 g3 m_19 m_20) (h : RSh w0 w1 w2 w3 w4 w5 w6 w7 w8 m_21 m_22 m_23 m_24 m_25 m_26 m_27 m_28 m_29 m_30 m_31) : RRv (B + 1) (f_X3_accept b ((g0, g1, g2, g3), (w0, w1, w2, w3, w4, w5, w6, w7, w8), m_14, nI (min 9 10), m_15, m_9, nI r, nI tr, m_12, m_16, m_17, m_18)) (rx (f_X7_takeBit b (m_0, m_1, m_2, m_3, m_4, m_5, m_6, m_7, m_8, m_9, nI r, nI tr, m_12, nI 9, m_14, m_15, m_16, m_17, m_18, m_19, m_20, m_21, m_22, m_23, m_24, m_25, m_26, m_27, m_28, m_29, m_30, m_31))) := by
  rw [acc_eq hb]
  have hw := and1023 ((m_14 <<< ((1 : Int32) &&& 31)) ||| b)
  have c1 : (10 : Int32) ≤ nI (min (9 + 1) 10) := by decide
  have c0 : ¬ nI r ≤ 0 := nI_nle hr0 (by omega)
  have c3 : ¬ nI r = 0 := nI_ne0 hr0 (by omega)
  have c2 : nI 9 + 1 = 10 := rfl
  simp only [jn_X3_accept_37, ↓if_pos c1, letv, ↓if_neg c0, rd_eq]
  simp only [f_X7_takeBit, ↓if_neg c3, ↓if_pos c2]
  exact later_sim (m_0 := m_0) (m_1 := m_1) (m_2 := m_2) (m_3 := m_3) (m_4 := m_4) (m_5 := m_5) (m_6 := m_6) (m_7 := m_7) (m_8 := m_8) (m_9 := m_9) (m_12 := m_12) (m_13 := (nI 9 + 1)) (m_14 := (((m_14 <<< ((1 : Int32) &&& 31)) ||| b) &&& 1023)) (m_15 := m_15) (m_16 := m_16) (m_17 := m_17) (m_18 := m_18) (m_19 := m_19) (m_20 := m_20) (m_21 := m_21) (m_22 := m_22) (m_23 := m_23) (m_24 := m_24) (m_25 := m_25) (m_26 := m_26) (m_27 := m_27) (m_28 := m_28) (m_29 := m_29) (m_30 := m_30) (m_31 := m_31) (tab_mv hT) hB hw hp hr0 hr ht h3 hL h
theorem bit_sim {b : Int32} {B : Nat} {R : RvS} {M : MdS} (hb : b = 0 ∨ b = 1) (hB : B < 100000000) (hT : tabOK M) (h : RRv B R (rx M)) : RRv (B + 1) (f_X3_accept b R) (rx (f_X7_takeBit b M)) := by
  obtain ⟨⟨r_0_0, r_0_1, r_0_2, r_0_3⟩, ⟨r_1_0, r_1_1, r_1_2, r_1_3, r_1_4, r_1_5, r_1_6, r_1_7, r_1_8⟩, r_2, r_3, r_4, r_5, r_6, r_7, r_8, r_9, r_10, r_11⟩ := R
  obtain ⟨m_0, m_1, m_2, m_3, m_4, m_5, m_6, m_7, m_8, m_9, m_10, m_11, m_12, m_13, m_14, m_15, m_16, m_17, m_18, m_19, m_20, m_21, m_22, m_23, m_24, m_25, m_26, m_27, m_28, m_29, m_30, m_31⟩ := M
  obtain ⟨⟨a1, a2, a3, a4, a5, a6, a7, a8, a9, b1, b2, b3, r, bi, tr, d1, d2, d3, d4, d5, d6, d7, d8, d9⟩, hL, h⟩ := h
  subst a1 a3 a5 a7 a8 a9 b1 b2 b3 d2 d4 d5 d8
  by_cases c : bi + 1 < 10
  · exact bit_a hb hB d3 a4 a6 d1 d7 d9 hL h c
  · rcases (show r = 0 ∨ 0 < r by omega) with e | e
    · subst e
      exact bit_b hb hT hB d3 a4 a6 d7 hL h c
    · have hb9 : bi = 9 := by have := d6 e; omega
      subst hb9
      exact bit_c hb hT hB a6 e d1 d7 d9 hL h

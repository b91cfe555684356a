theorem frame_loop : ∀ (fu i t n c y : Nat) (s0 f m_3 : Nat → Int32) (d : Int32) (m_0 : Nat → Int32) (m_1 : Nat → Int32) (m_2 : Nat → Int32) (m_5 : Nat → Int32) (m_9 : Int32) (m_10 : Int32) (m_11 : Int32) (m_12 : Int32) (m_13 : Int32) (m_14 : Int32) (m_15 : Int32) (m_16 : Int32) (m_17 : Int32) (m_18 : Int32) (m_19 : Int32) (m_20 : Nat → Int32) (m_21 : Int32) (m_22 : Int32) (m_23 : Int32) (m_24 : Int32) (m_25 : Nat → Int32) (m_26 : Int32) (m_27 : Nat → Int32) (m_28 : Nat → Int32) (m_29 : Nat → Int32) (m_30 : Int32) (m_31 : Int32), tabOK (m_0, m_1, m_2, m_3, nI n, m_5, nI t, d, nI c, m_9, m_10, m_11, m_12, m_13, m_14, m_15, m_16, m_17, m_18, m_19, m_20, m_21, m_22, m_23, m_24, m_25, m_26, m_27, m_28, m_29, m_30, m_31) → RLn n (f, nI n) m_3 (nI n) → RSd t c (s0, nI t, d, nI c) m_5 (nI t) d (nI c) → i ≤ t → t < i + fu → n + 10 * (t - i) + 10 * (2 + (c + (t - i)) % 2) ≤ 8000 → y = t + 3 + (c + (t - i)) % 2 → c + (t - i) ≤ 1000000 →
    ∃ (f' m3' : Nat → Int32) (d' : Int32), RLn (n + 10 * (t - i) + 10 * (2 + (c + (t - i)) % 2)) (f', nI (n + 10 * (t - i) + 10 * (2 + (c + (t - i)) % 2))) m3' (nI (n + 10 * (t - i) + 10 * (2 + (c + (t - i)) % 2))) ∧ pm d' ∧ lp_X4_putFrame_30 fu (nI y) (nI i) (s0, nI t, d, nI c) (f, nI n) = (nI y, (s0, 0, d', nI (c + (t - i) + 2 + (c + (t - i)) % 2)), (f', nI (n + 10 * (t - i) + 10 * (2 + (c + (t - i)) % 2)))) ∧ lp_X7_frame_46 fu (nI y) (nI i) (m_0, m_1, m_2, m_3, nI n, m_5, nI t, d, nI c, m_9, m_10, m_11, m_12, m_13, m_14, m_15, m_16, m_17, m_18, m_19, m_20, m_21, m_22, m_23, m_24, m_25, m_26, m_27, m_28, m_29, m_30, m_31) = (nI y, (m_0, m_1, m_2, m3', nI (n + 10 * (t - i) + 10 * (2 + (c + (t - i)) % 2)), m_5, 0, d', nI (c + (t - i) + 2 + (c + (t - i)) % 2), m_9, m_10, m_11, m_12, m_13, m_14, m_15, m_16, m_17, m_18, m_19, m_20, m_21, m_22, m_23, m_24, m_25, m_26, m_27, m_28, m_29, m_30, m_31)) := by
  intro fu
  induction fu with
  | zero => intro i t n c y s0 f m_3 d m_0 m_1 m_2 m_5 m_9 m_10 m_11 m_12 m_13 m_14 m_15 m_16 m_17 m_18 m_19 m_20 m_21 m_22 m_23 m_24 m_25 m_26 m_27 m_28 m_29 m_30 m_31 hT hL hS h1 h2; omega
  | succ fu ih =>
    intro i t n c y s0 f m_3 d m_0 m_1 m_2 m_5 m_9 m_10 m_11 m_12 m_13 m_14 m_15 m_16 m_17 m_18 m_19 m_20 m_21 m_22 m_23 m_24 m_25 m_26 m_27 m_28 m_29 m_30 m_31 hT hL hS h1 h2 h3 h4 h5
    have hS' := hS
    obtain ⟨t1, t2, t3, t4, t5, t6, t7, t8⟩ := hS'
    by_cases ci : i < t
    · have c1 : ¬ nI t ≤ nI i := nI_ge ci (by omega)
      have c2 : ¬ (400 : Int32) ≤ nI i := nI_ge (b := 400) (by omega) (by decide)
      have ei : (nI i).toNatClampNeg = i := nI_clamp (by omega)
      have t4i := t4 i ci
      have hb : (0 ≤ (s0 i).toInt ∧ (s0 i).toInt ≤ 255) := t4i.1
      have hm : m_5 i &&& 255 = s0 i := t4i.2
      obtain ⟨g1, d1, f1, a1, R1, p1, u1, w1⟩ := put_sim (v := s0 i) (sg := 0) hT hL hS (by omega) hb (Or.inl rfl)
      have S1 : RSd t (c + 1) (s0, nI t, d1, nI (c + 1)) m_5 (nI t) d1 (nI (c + 1)) := ⟨t1, rfl, rfl, t4, rfl, p1, rfl, rfl⟩
      have e1 : n + 10 + 10 * (t - (i + 1)) + 10 * (2 + (c + 1 + (t - (i + 1))) % 2) = n + 10 * (t - i) + 10 * (2 + (c + (t - i)) % 2) := by omega
      have e2 : c + 1 + (t - (i + 1)) + 2 + (c + 1 + (t - (i + 1))) % 2 = c + (t - i) + 2 + (c + (t - i)) % 2 := by omega
      obtain ⟨f', m3', d', R, p, u, w⟩ := ih (i + 1) t (n + 10) (c + 1) y s0 f1 a1 d1 m_0 m_1 m_2 m_5 m_9 m_10 m_11 m_12 m_13 m_14 m_15 m_16 m_17 m_18 m_19 m_20 m_21 m_22 m_23 m_24 m_25 m_26 m_27 m_28 m_29 m_30 m_31 hT R1 S1 (by omega) (by omega) (by omega) (by omega) (by omega)
      rw [e1] at R u w
      rw [e2] at u w
      refine ⟨f', m3', d', R, p, ?_, ?_⟩
      · simp only [lp_X4_putFrame_30, ↓if_neg c1, ↓if_neg c2, ei, u1, nI_1]
        exact u
      · simp only [lp_X7_frame_46, ↓if_neg c1, ei, hm, w1, nI_1]
        exact w
    · have hit : i = t := by omega
      subst hit
      have c1 : nI i ≤ nI i := nI_le (Nat.le_refl _) (by omega)
      simp only [Nat.sub_self, Nat.add_zero, Nat.mul_zero] at h3 h4 h5 ⊢
      obtain ⟨g1, d1, f1, a1, R1, p1, u1, w1⟩ := put_sim (v := 253) (sg := 1) hT hL hS (by omega) ⟨by decide, by decide⟩ (Or.inr (by decide))
      have S1 : RSd i (c + 1) (s0, nI i, d1, nI (c + 1)) m_5 (nI i) d1 (nI (c + 1)) := ⟨t1, rfl, rfl, t4, rfl, p1, rfl, rfl⟩
      have T1 : tabOK (m_0, m_1, m_2, a1, nI (n + 10), m_5, nI i, d1, nI (c + 1), m_9, m_10, m_11, m_12, m_13, m_14, m_15, m_16, m_17, m_18, m_19, m_20, m_21, m_22, m_23, m_24, m_25, m_26, m_27, m_28, m_29, m_30, m_31) := hT
      obtain ⟨g2, d2, f2, a2, R2, p2, u2, w2⟩ := put_sim (v := 247) (sg := 1) T1 R1 S1 (by omega) ⟨by decide, by decide⟩ (Or.inr (by decide))
      have S2 : RSd i (c + 1 + 1) (s0, nI i, d2, nI (c + 1 + 1)) m_5 (nI i) d2 (nI (c + 1 + 1)) := ⟨t1, rfl, rfl, t4, rfl, p2, rfl, rfl⟩
      have T2 : tabOK (m_0, m_1, m_2, a2, nI (n + 10 + 10), m_5, nI i, d2, nI (c + 1 + 1), m_9, m_10, m_11, m_12, m_13, m_14, m_15, m_16, m_17, m_18, m_19, m_20, m_21, m_22, m_23, m_24, m_25, m_26, m_27, m_28, m_29, m_30, m_31) := hT
      have ea : nI (c + 1 + 1) &&& 1 = nI ((c + 1 + 1) % 2) := pk_andN (by omega) (m := 1) 1 (by decide)
      have e3 : nI i + 3 = nI (i + 3) := nI_add i 3
      by_cases cp : c % 2 = 0
      · have c3 : nI (c + 1 + 1) &&& 1 = 0 := by rw [ea, show (c + 1 + 1) % 2 = 0 by omega]; rfl
        have c4 : nI y ≤ nI i + 3 := by rw [e3]; exact nI_le (by omega) (by omega)
        rw [cp]
        refine ⟨f2, a2, d2, R2, p2, ?_, ?_⟩
        · simp only [lp_X4_putFrame_30, ↓if_pos c1, u1, u2, ↓if_pos c3]
        · simp only [lp_X7_frame_46, ↓if_pos c1, w1, w2, ↓if_pos c4]
      · have c3 : ¬ nI (c + 1 + 1) &&& 1 = 0 := by rw [ea, show (c + 1 + 1) % 2 = 1 by omega]; decide
        have c4 : ¬ nI y ≤ nI i + 3 := by rw [e3]; exact nI_ge (by omega) (by omega)
        have cq : c % 2 = 1 := by omega
        obtain ⟨g3, d3, f3, a3, R3, p3, u3, w3⟩ := put_sim (v := 247) (sg := 1) T2 R2 S2 (by omega) ⟨by decide, by decide⟩ (Or.inr (by decide))
        rw [cq]
        refine ⟨f3, a3, d3, R3, p3, ?_, ?_⟩
        · simp only [lp_X4_putFrame_30, ↓if_pos c1, u1, u2, ↓if_neg c3, u3]
        · simp only [lp_X7_frame_46, ↓if_pos c1, w1, w2, ↓if_neg c4, w3]
theorem sim_frame (k : Nat) (S : CGS) (M : MdS) (hk : k < 512) (h : Rel k S M) : (f_X6_frame S).1 = (f_X7_frame M).1 ∧ Rel (k + 1) (f_X6_frame S).2 (f_X7_frame M).2 := by
  have hm := sim_mono _ _ _ h
  obtain ⟨⟨f, x⟩, ⟨s0, s1, s2, s3⟩, ⟨⟨r_0_0, r_0_1, r_0_2, r_0_3⟩, ⟨r_1_0, r_1_1, r_1_2, r_1_3, r_1_4, r_1_5, r_1_6, r_1_7, r_1_8⟩, r_2, r_3, r_4, r_5, r_6, r_7, r_8, r_9, r_10, r_11⟩⟩ := S
  obtain ⟨m_0, m_1, m_2, m_3, m_4, m_5, m_6, m_7, m_8, m_9, m_10, m_11, m_12, m_13, m_14, m_15, m_16, m_17, m_18, m_19, m_20, m_21, m_22, m_23, m_24, m_25, m_26, m_27, m_28, m_29, m_30, m_31⟩ := M
  obtain ⟨n, t, c, h1, h2, h3, h4, h5⟩ := h
  have hS := h3
  obtain ⟨t1, t2, t3, t4, t5, t6, t7, t8⟩ := h3
  have e1 : x = nI n := h2.2.1
  have e2 : m_4 = nI n := h2.2.2.1
  have hn : n ≤ 8000 := h2.1
  have t2 : s1 = nI t := t2
  have t3 : m_6 = nI t := t3
  have t5 : s2 = m_7 := t5
  have t7 : s3 = nI c := t7
  have t8 : m_8 = nI c := t8
  subst e1
  subst e2
  subst t2
  subst t3
  subst t5
  subst t7
  subst t8
  have h4 : c ≤ 410 * k := h4
  have ey1 : f_X4_frameGroups (s0, nI t, s2, nI c) = nI (t + 3 + (c + t + 3) % 2) := by
    simp only [f_X4_frameGroups]
    have a1 : nI t + 3 = nI (t + 3) := nI_add t 3
    rw [a1, nI_add, pk_andN (by omega) (m := 1) 1 (by decide), nI_add]
    congr 1
  have ey2 : (nI t + 3) + ((nI c + (nI t + 3)) - (nI c + (nI t + 3)) / 2 * 2) = nI (t + 3 + (c + t + 3) % 2) := by
    have a1 : nI t + 3 = nI (t + 3) := nI_add t 3
    rw [a1, nI_add, show (2 : Int32) = nI 2 from rfl, pk_rem (by omega) (by decide) (by decide), nI_add]
    congr 1
  have em1 : nI (t + 3 + (c + t + 3) % 2) * 10 = nI (10 * (t + 3 + (c + t + 3) % 2)) := by
    rw [show (10 : Int32) = nI 10 from rfl, pk_mul, Nat.mul_comm]
  have em2 : 10 * nI (t + 3 + (c + t + 3) % 2) = nI (10 * (t + 3 + (c + t + 3) % 2)) := by
    rw [show (10 : Int32) = nI 10 from rfl, pk_mul]
  have hroom := room_eq (n := n) (r := 10 * (t + 3 + (c + t + 3) % 2)) (f := f) hn (by omega)
  by_cases cr : n + 10 * (t + 3 + (c + t + 3) % 2) ≤ 8000
  · have hr0 : ¬ f_X2_hasRoomFor (nI (10 * (t + 3 + (c + t + 3) % 2))) (f, nI n) = 0 := fun w => by have := hroom.1.mp w; omega
    have c5 : nI n + nI (10 * (t + 3 + (c + t + 3) % 2)) ≤ 8000 := hroom.2.mpr cr
    obtain ⟨g1, d1, f1, a1, R1, p1, u1, w1⟩ := put_sim (v := 251) (sg := 1) h1 h2 hS (by omega) ⟨by decide, by decide⟩ (Or.inr (by decide))
    have S1 : RSd t (c + 1) (s0, nI t, d1, nI (c + 1)) m_5 (nI t) d1 (nI (c + 1)) := ⟨t1, rfl, rfl, t4, rfl, p1, rfl, rfl⟩
    obtain ⟨f', m3', d', R, p, u, w⟩ := frame_loop 401 0 t (n + 10) (c + 1) (t + 3 + (c + t + 3) % 2) s0 f1 a1 d1 m_0 m_1 m_2 m_5 m_9 m_10 m_11 m_12 m_13 m_14 m_15 m_16 m_17 m_18 m_19 m_20 m_21 m_22 m_23 m_24 m_25 m_26 m_27 m_28 m_29 m_30 m_31 h1 R1 S1 (by omega) (by omega) (by omega) (by omega) (by omega)
    rw [nI_0] at u w
    simp only [f_X6_frame, f_X4_putFrame, f_X7_frame, letv, ey1, ey2, em1, em2, ↓if_neg hr0, ↓if_pos c5, u1, w1, u, w]
    exact ⟨trivial, _, 0, _, h1, R, ⟨by omega, rfl, rfl, fun j hj => absurd hj (by omega), rfl, p, rfl, rfl⟩, by omega, h5.mono⟩
  · have hr0 : f_X2_hasRoomFor (nI (10 * (t + 3 + (c + t + 3) % 2))) (f, nI n) = 0 := hroom.1.mpr (by omega)
    have c5 : ¬ nI n + nI (10 * (t + 3 + (c + t + 3) % 2)) ≤ 8000 := fun w => cr (hroom.2.mp w)
    simp only [f_X6_frame, f_X4_putFrame, f_X7_frame, letv, ey1, ey2, em1, em2, ↓if_pos hr0, ↓if_neg c5]
    exact ⟨trivial, hm⟩
